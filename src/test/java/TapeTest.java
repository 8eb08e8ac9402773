import java.nio.charset.StandardCharsets;

/** Promises 2 (feed), 3 (end), 16 (digest) and 17 (octet). */
public final class TapeTest {
    public static void main(String[] args) {
        feed();
        feedIsFull();
        end();
        callsThatReadEmptyTheTape();
        digest();
        octet();
        Gate.finish("TapeTest");
    }

    private static void feed() {
        Gate gate = new Gate();
        Gate.due("the first feed", gate.gate.feed(0x612e622e, 0x632e642e, 0x652e662e, 0x672e682e, 0x692e6a2e), 20);
        Gate.due("the second feed", gate.gate.feed(0x6b2e6c2e, 0x6d2e6e2e, 0x6f2e702e, 0x712e722e, 0x732e7400), 40);
        gate.gate.end(39);
        gate.gate.entry(4, 0);
        Gate.due("the bytes in their order", gate.house("z.a.b.c.d.e.f.g.h.i.j.k.l.m.n.o.p.q.r.s.t"),
                "z.a.b.c.d.e.f.g.h.i.j.k.l.m.n.o.p.q.r.s.t");
    }

    private static void feedIsFull() {
        PostGate gate = new PostGate();
        for (int i = 1; i <= 150; i++) {
            Gate.due("feed " + i, gate.feed(i, i, i, i, i), 20 * i);
        }
        Gate.due("feed over 3000", gate.feed(0, 0, 0, 0, 0), -3);
        Gate.due("the tape after FULL", gate.end(3000), 3000);
        Gate.due("end(2981)", gate.end(2981), 2981);
        Gate.due("feed to 3001", gate.feed(0, 0, 0, 0, 0), -3);
        Gate.due("end(2980)", gate.end(2980), 2980);
        Gate.due("feed to 3000", gate.feed(0, 0, 0, 0, 0), 3000);
    }

    private static void end() {
        PostGate gate = new PostGate();
        gate.feed(1, 2, 3, 4, 5);
        Gate.due("end(21)", gate.end(21), -1);
        Gate.due("end(-1)", gate.end(-1), -1);
        Gate.due("end(MIN)", gate.end(Integer.MIN_VALUE), -1);
        Gate.due("end(MAX)", gate.end(Integer.MAX_VALUE), -1);
        Gate.due("end(20)", gate.end(20), 20);
        Gate.due("end(7)", gate.end(7), 7);
        Gate.due("end(8)", gate.end(8), -1);
        Gate.due("feed behind the cut", gate.feed(1, 2, 3, 4, 5), 27);
        Gate.due("end(0)", gate.end(0), 0);
        Gate.due("end(1)", gate.end(1), -1);
    }

    private static void callsThatReadEmptyTheTape() {
        for (int call = 0; call < 5; call++) {
            for (String text : new String[] {"a.com", "?", "x@a.com", "From: x"}) {
                Gate gate = new Gate();
                gate.tape(text);
                read(gate.gate, call);
                Gate.due("the tape after call " + call + " of " + text, gate.gate.feed(0, 0, 0, 0, 0), 20);
            }
        }
        Gate gate = new Gate();
        gate.tape("a.com");
        gate.gate.permission();
        gate.gate.seals();
        gate.gate.forget();
        gate.gate.wish(1);
        gate.gate.sealed(0, 1);
        gate.gate.plainBody(true);
        gate.gate.plainField(0, true);
        gate.gate.octet(0);
        gate.gate.cost(0);
        Gate.due("other calls leave the tape", gate.gate.entry(4, 0), 1);
    }

    private static void read(PostGate gate, int call) {
        switch (call) {
            case 0:
                gate.entry(1, 0);
                break;
            case 1:
                gate.sender(0);
                break;
            case 2:
                gate.message();
                break;
            case 3:
                gate.house();
                break;
            default:
                gate.digest();
        }
    }

    private static void digest() {
        Gate gate = new Gate();
        Gate.due("digest() of nothing", gate.gate.digest(), 32);
        Gate.due("its bytes", hex(gate.out()), "e3b0c44298fc1c149afbf4c8996fb92427ae41e4649b934ca495991b7852b855");
        Gate.due("digest() of abc", gate.tape("abc").gate.digest(), 32);
        Gate.due("its bytes", hex(gate.out()), "ba7816bf8f01cfea414140de5dae2223b00361a396177a9cb410ff61f20015ad");
        for (int n : new int[] {1, 54, 55, 56, 57, 63, 64, 65, 119, 120, 128, 2999, 3000}) {
            String text = "\u00ff\u0000\u0080x".repeat(750).substring(0, n);
            gate.tape(text).gate.digest();
            String due = new String(Model.sum(text), StandardCharsets.ISO_8859_1);
            Gate.due("digest() of " + n, hex(gate.out()), hex(due));
        }
    }

    private static String hex(String text) {
        StringBuilder digits = new StringBuilder();
        for (char c : text.toCharArray()) {
            digits.append(String.format("%02x", (int) c));
        }
        return digits.toString();
    }

    private static void octet() {
        Gate gate = new Gate();
        gate.house("x.a.com");
        Gate.due("octet(-1)", gate.gate.octet(-1), 5);
        Gate.due("octet(0)", gate.gate.octet(0), 'a');
        Gate.due("octet(4)", gate.gate.octet(4), 'm');
        Gate.due("octet(5)", gate.gate.octet(5), -2);
        Gate.due("octet(-2)", gate.gate.octet(-2), -2);
        Gate.due("octet(MIN)", gate.gate.octet(Integer.MIN_VALUE), -2);
        Gate.due("octet(MAX)", gate.gate.octet(Integer.MAX_VALUE), -2);
        gate.message("a: \u00ff\u0000\n\n\n");
        gate.gate.plainField(0, false);
        Gate.due("a byte over 127", gate.gate.octet(3), 255);
        Gate.due("byte 0", gate.gate.octet(4), 0);
        gate.gate.plainBody(true);
        Gate.due("OUT may become empty", gate.gate.octet(-1), 0);
        gate.house("x.b.com");
        gate.gate.plainField(7, true);
        gate.house("..");
        Gate.due("OUT stays after NONE and REFUSED", gate.out(), "b.com");
    }
}
