import java.io.IOException;
import java.nio.charset.StandardCharsets;
import java.nio.file.Files;
import java.nio.file.Path;

/** README.md shows a use that answers what it says, and names each method. */
public final class ReadmeTest {
    public static void main(String[] args) throws IOException {
        use();
        names();
        Gate.finish("ReadmeTest");
    }

    private static void write(PostGate gate, String text) {
        for (int start = 0; start < text.length(); start += 20) {
            int[] words = new int[5];
            for (int i = 0; i < 20; i++) {
                int b = start + i < text.length() ? text.charAt(start + i) & 255 : 0;
                words[i / 4] = words[i / 4] << 8 | b;
            }
            gate.feed(words[0], words[1], words[2], words[3], words[4]);
        }
        gate.end(text.length());
    }

    private static void use() {
        PostGate gate = new PostGate();
        write(gate, "a.com v=spf1 ip4:192.0.2.0/24 -all");
        Gate.due("entry(0, 0)", gate.entry(0, 0), 1);
        write(gate, "_dmarc.a.com v=DMARC1; p=reject");
        Gate.due("entry(0, 0)", gate.entry(0, 0), 2);
        write(gate, "x@a.com");
        Gate.due("sender(0xC0000201)", gate.sender(0xC0000201), 0);
        Gate.due("permission()", gate.permission(), 2);
        Gate.due("cost(0)", gate.cost(0), 0);
        write(gate, "From: x@a.com\n\nhello\n");
        Gate.due("message()", gate.message(), 1);
        Gate.due("seals()", gate.seals(), 0);
        Gate.due("wish(1000)", gate.wish(1000), 2);
    }

    private static void names() throws IOException {
        String text = Files.readString(Path.of("README.md"), StandardCharsets.UTF_8);
        String[] calls = {"PostGate()", "feed(a, b, c, d, e)", "end(n)", "entry(sort, address)", "forget()",
            "sender(address)", "permission()", "cost(what)", "message()", "seals()", "sealed(k, now)",
            "plainBody(relaxed)", "plainField(k, relaxed)", "house()", "wish(now)", "digest()", "octet(k)"};
        for (String call : calls) {
            Gate.due("a row for " + call, text.contains("| `" + call + "` |") ? 1 : 0, 1);
        }
        Gate.due("how to run the tests", text.contains("bash .ci/run") ? 1 : 0, 1);
    }
}
