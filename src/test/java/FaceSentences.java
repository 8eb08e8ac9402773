import java.lang.reflect.Method;
import java.lang.reflect.Modifier;

/** What it is, and the public face. */
final class FaceSentences {
    private static final int HERE = 0xC0000201;

    private FaceSentences() {
    }

    static void ask() {
        whatItIs();
        calls();
        face();
    }

    private static Gate gate() {
        Gate gate = new Gate();
        gate.text("a.com", "v=spf1 ip4:192.0.2.1 -all");
        gate.text(Letter.KEY_NAME, Letter.KEY);
        gate.text("_dmarc.a.com", "v=DMARC1; p=reject");
        return gate;
    }

    private static void whatItIs() {
        Document.says("A gate for mail: may this address send for that domain, is the message signed by whom it"
                + " says, and what does the domain that is seen want done if not.");
        Gate gate = gate();
        gate.message(Letter.sealed(""));
        gate.sender("x@a.com", HERE + 1);
        Gate.due("another address", gate.gate.permission(), 3);
        Gate.due("signed", gate.gate.sealed(0, 5), 2);
        Gate.due("signed, from another address", gate.gate.wish(5), 2);
        gate.message(Letter.sealed("").replace("hello", "hallo"));
        Gate.due("not what was signed", gate.gate.sealed(0, 5), 3);
        Gate.due("neither signed nor permitted", gate.gate.wish(5), 9);
        gate.sender("x@a.com", HERE);
        Gate.due("the address", gate.gate.permission(), 2);
        Gate.due("not signed, but permitted", gate.gate.wish(5), 2);
    }

    private static int callsOf(String tape) {
        return (tape.length() + 19) / 20 + 2;
    }

    private static void calls() {
        Document.says("An object is used for at most 512 calls after it has been made; what later calls answer is"
                + " free.");
        Gate gate = gate();
        // The dearest WISH: a MESSAGE that fills the TAPE, whose fourteen SEALS are all worked through.
        String own = Letter.own("", Letter.BODY).replace("DKIM-Signature: ", "dkim-signature:").replace("; ", ";");
        StringBuilder text = new StringBuilder(Letter.FROM + "\n");
        for (int i = 0; i < 14; i++) {
            text.append(own).append(Letter.NO_SIGNATURE).append("\n");
        }
        text.append("\n").append(Letter.BODY);
        String letter = text.toString();
        gate.sender("x@a.com", 1);
        Gate.due("message()", gate.message(letter), 15);
        int made = callsOf("a.com v=spf1 ip4:192.0.2.1 -all") + callsOf(Letter.KEY_NAME + " " + Letter.KEY)
                + callsOf("_dmarc.a.com v=DMARC1; p=reject") + callsOf("x@a.com") + callsOf(letter);
        for (int call = made + 1; call <= 512; call++) {
            Gate.due("call " + call, call % 2 == 0 ? gate.gate.wish(5) : gate.gate.permission(), call % 2 == 0 ? 9 : 3);
        }
        Gate.due("calls to the TAPE are fewer than 512", made < 300 ? 1 : 0, 1);
    }

    private static void face() {
        String face = "public final class PostGate {"
                + " public static final int REFUSED = -1, NONE = -2, FULL = -3;"
                + " public PostGate();"
                + " public int feed(int a, int b, int c, int d, int e);"
                + " public int end(int n);"
                + " public int entry(int sort, int address);"
                + " public int forget();"
                + " public int sender(int address);"
                + " public int permission();"
                + " public int cost(int what);"
                + " public int message();"
                + " public int seals();"
                + " public int sealed(int k, int now);"
                + " public int plainBody(boolean relaxed);"
                + " public int plainField(int k, boolean relaxed);"
                + " public int house();"
                + " public int wish(int now);"
                + " public int digest();"
                + " public int octet(int k);"
                + " }";
        Document.says(face);
        Gate.due("public final class", PostGate.class.getModifiers(), Modifier.PUBLIC | Modifier.FINAL);
        Gate.due("REFUSED", PostGate.REFUSED, -1);
        Gate.due("NONE", PostGate.NONE, -2);
        Gate.due("FULL", PostGate.FULL, -3);
        Gate.due("constructors", PostGate.class.getConstructors().length, 1);
        Gate.due("public PostGate()", PostGate.class.getConstructors()[0].getParameterCount(), 0);
        int methods = 0;
        for (Method method : PostGate.class.getDeclaredMethods()) {
            if (Modifier.isPublic(method.getModifiers())) {
                methods++;
                Gate.due(lineOf(method), face.contains(lineOf(method)) ? 1 : 0, 1);
            }
        }
        Gate.due("methods", methods, 16);
    }

    /** The method as the face writes it; a parameter's name is looked up there by its place. */
    private static String lineOf(Method method) {
        String[][] names = {{"feed", "a", "b", "c", "d", "e"}, {"end", "n"}, {"entry", "sort", "address"},
            {"sender", "address"}, {"cost", "what"}, {"sealed", "k", "now"}, {"plainBody", "relaxed"},
            {"plainField", "k", "relaxed"}, {"wish", "now"}, {"octet", "k"}};
        StringBuilder line = new StringBuilder(Modifier.toString(method.getModifiers())).append(' ')
                .append(method.getReturnType()).append(' ').append(method.getName()).append('(');
        for (int i = 0; i < method.getParameterCount(); i++) {
            line.append(i > 0 ? ", " : "").append(method.getParameterTypes()[i]).append(' ');
            for (String[] row : names) {
                boolean named = row[0].equals(method.getName()) && i + 1 < row.length;
                line.append(named ? row[i + 1] : "");
            }
        }
        return line.append(");").toString();
    }
}
