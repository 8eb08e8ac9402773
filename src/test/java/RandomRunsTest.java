import java.util.ArrayList;
import java.util.List;
import java.util.Random;

/** Long runs of calls, drawn with fixed seeds, on a PostGate and on the Model; each answer is compared. */
public final class RandomRunsTest {
    private static final String[] NAMES = {"a.com", "b.com", "mail.a.com", "x.mail.a.com", "com", "c.b.com", "a",
        "_dmarc.a.com", "_dmarc.mail.a.com", "_dmarc.com", "k0._domainkey.a.com", "k1._domainkey.b.com",
        "k0._domainkey.mail.a.com", "1.2.0.192.a.com", "joe.a.com", "com.a", "co.uk", "a.co.uk", "b.a.co.uk", "uk",
        "abcdefghij0123456789.abcdefghij0123456789.abcdefghij012345.z", "abcdefghij0123456789"};
    private static final String[] WRONG_NAMES = {"", ".", "a.", ".a", "a..b", "A.com", "a b", "abcdefghij01234567890",
        "abcdefghij0123456789.abcdefghij0123456789.abcdefghij0123456.zz", "a@b", "a.com ", " a.com", "\u00e4.com"};
    private static final String[] SIGNS = {"", "", "", "+", "?", "~", "-"};
    private static final int[] ADDRESSES = {0xC0000201, 0xC0000202, 0xC0000301, 0xC0A80001, 0, -1, 0x0A000001};
    private static final String[] HOSTS = {"a.com", "b.com", "mail.a.com", "c.b.com", "%{d}", "%{o}", "%{l}.%{d}",
        "%{ir}.%{d2}", "%{d1}", "%{dr}", "%{d2r}", "%{s}", "%{i}", "%%", "%_", "%-", "a.com%{", "%{d0}", "%{x}", "%",
        "%{l1r}.a.com", "x.%{d9}", "%{d}.%{d}.%{d}.%{d}.%{d}", "a/b", "a=b", "A.com", "\u00e4", "%{d2", "%{o1}"};
    private static final String[] WRONG_TERMS = {"all.", "al", "include", "include:", "ip4:1.2.3", "ip4:1.2.3.256",
        "ip4:1.2.3.4/33", "a/", "a/100", "a:", "mx:/24", "mx/33", "exists", "exists:", "redirect=", "+redirect=a.com",
        "-x=y", "X=y", "1=2", "All", "include:a.com/\t", "ip4:1.2.3.4.5", "ip4:0001.2.3.4", "ptr", "=", "?"};
    private static final String[] OTHER_TERMS = {"exp=", "exp=%{", "x-y_z.9=a=b", "a=1", "redirec=q", "all=-all"};
    private static final String[] BODIES = {"", "\n", "\n\n", "hello\n", "hello", "a \t b \n\n \t\n", " x\ty  z\t",
        "\n\nq\n\n\n", " \t ", "one\ntwo \n three\n\n", "\u00ff\u0000\r\n", "a\n \n\t\n"};
    private static final String[] DOMAINS = {"a.com", "mail.a.com", "b.com", "x.mail.a.com", "A.COM", "a.co.uk", "com",
        "a_b", "a..b", "", "c.b.com"};

    private static final Signer[] SIGNERS = {new Signer(1), new Signer(2)};

    private final Random random;
    private final Gate gate = new Gate();
    private final Model model = new Model();
    private final String run;
    private final int[] seen;

    private RandomRunsTest(long seed, int[] seen) {
        random = new Random(seed);
        run = "run " + seed + ": ";
        this.seen = seen;
    }

    public static void main(String[] args) {
        int runs = args.length > 0 ? Integer.parseInt(args[0]) : 400;
        int[] seen = new int[100];
        for (int seed = 0; seed < runs; seed++) {
            new RandomRunsTest(seed, seen).play(60);
        }
        for (int answer = 0; answer <= 6; answer++) {
            Gate.due("a PERMISSION " + answer + " among the runs", seen[answer] > 0 ? 1 : 0, 1);
        }
        for (int answer : new int[] {1, 2, 3, 5, 6}) {
            Gate.due("a SEALED " + answer + " among the runs", seen[20 + answer] > 0 ? 1 : 0, 1);
        }
        for (int answer : new int[] {0, 1, 2, 5, 6, 7, 8, 9}) {
            Gate.due("a WISH " + answer + " among the runs", seen[40 + answer] > 0 ? 1 : 0, 1);
        }
        if (args.length > 0) {
            System.out.println(java.util.Arrays.toString(seen));
        }
        Gate.finish("RandomRunsTest");
    }

    private String one(String... texts) {
        return texts[random.nextInt(texts.length)];
    }

    /** A name that most runs have much to say about. */
    private String name() {
        return chance(60) ? one("a.com", "b.com", "mail.a.com", "c.b.com") : one(NAMES);
    }

    private boolean chance(int percent) {
        return random.nextInt(100) < percent;
    }

    private int number(int answer, int from) {
        if (answer >= 0) {
            seen[from + answer]++;
        }
        return answer;
    }

    private void tape(String text) {
        int had = gate.gate.end(0);
        Gate.due(run + "end(0)", had, model.end(0));
        gate.tape(text);
        for (int i = 0; i < text.length(); i += 20) {
            byte[] bytes = text.getBytes(java.nio.charset.StandardCharsets.ISO_8859_1);
            model.feed(Gate.four(bytes, i), Gate.four(bytes, i + 4), Gate.four(bytes, i + 8), Gate.four(bytes, i + 12),
                    Gate.four(bytes, i + 16));
        }
        model.end(text.length());
    }

    private void play(int steps) {
        if (chance(70)) {
            playGoodEntries();
        }
        int entries = random.nextInt(12);
        for (int i = 0; i < entries; i++) {
            playEntry();
        }
        playSender();
        for (int i = 0; i < steps; i++) {
            playStep(random.nextInt(12));
        }
    }

    private void playStep(int kind) {
        switch (kind) {
            case 0:
            case 1:
                playEntry();
                break;
            case 2:
                if (chance(12)) {
                    Gate.due(run + "forget()", gate.gate.forget(), model.forget());
                }
                break;
            case 3:
                playSender();
                playPermission();
                break;
            case 4:
                playPermission();
                break;
            case 5:
            case 6:
                playMessage();
                playSealed();
                playWish();
                break;
            case 7:
                playSealed();
                break;
            case 8:
                playPlain();
                break;
            case 9:
                tape(chance(85) ? one(NAMES) : one(WRONG_NAMES));
                Gate.due(run + "house()", gate.gate.house(), model.house());
                compareOut();
                break;
            case 10:
                playWish();
                break;
            default:
                playTape();
        }
    }

    private void compareOut() {
        int size = model.octet(-1);
        for (int k = -2; k <= size; k++) {
            Gate.due(run + "octet(" + k + ")", gate.gate.octet(k), model.octet(k));
        }
    }

    private void playTape() {
        int feeds = random.nextInt(200);
        for (int i = 0; i < feeds; i++) {
            int a = random.nextInt();
            Gate.due(run + "feed", gate.gate.feed(a, ~a, i, 0, a * 31), model.feed(a, ~a, i, 0, a * 31));
        }
        int n = random.nextInt(3200) - 100;
        Gate.due(run + "end(" + n + ")", gate.gate.end(n), model.end(n));
        if (chance(60)) {
            Gate.due(run + "digest()", gate.gate.digest(), model.digest());
            compareOut();
        } else {
            Gate.due(run + "message()", gate.gate.message(), model.message());
        }
    }

    /** One TEXT at most of each kind for a name, so that more than the look-ups is reached. */
    private void playGoodEntries() {
        for (String name : new String[] {"a.com", "b.com", "mail.a.com", "c.b.com"}) {
            takeEntry(0, name + " " + permitText());
            takeEntry(1, name);
            takeEntry(2, name + " " + name());
        }
        takeEntry(0, "_dmarc.a.com v=DMARC1; p=" + one("none", "quarantine", "reject") + one("", "; sp=reject")
                + one("", "", "; adkim=s") + one("", "", ";aspf=s"));
        takeEntry(0, "k0._domainkey.a.com p=" + SIGNERS[0].key());
        takeEntry(0, "k1._domainkey.b.com p=" + SIGNERS[1].key());
        takeEntry(0, "k0._domainkey.mail.a.com v=DKIM1; k=rsa; p=" + SIGNERS[0].key() + ";");
        if (chance(40)) {
            takeEntry(4, one("com", "a.com", "uk", "co.uk"));
        }
    }

    private void takeEntry(int sort, String text) {
        int address = ADDRESSES[random.nextInt(ADDRESSES.length)];
        tape(text);
        Gate.due(run + "entry(" + sort + ") of " + text, gate.gate.entry(sort, address), model.entry(sort, address));
    }

    private void playEntry() {
        int sort = chance(50) ? 0 : chance(97) ? random.nextInt(5) : random.nextInt(9) - 3;
        String name = chance(96) ? one(NAMES) : one(WRONG_NAMES);
        String text = name;
        if (sort == 0) {
            text = name + " " + textFor(name);
        } else if (sort == 2) {
            text = name + " " + (chance(95) ? one(NAMES) : one(WRONG_NAMES));
        } else if (sort == 3 && chance(70)) {
            text = "nobody.com";
        }
        takeEntry(sort, text);
    }

    private String textFor(String name) {
        if (name.startsWith("_dmarc") && chance(90)) {
            return policyText();
        }
        if (name.contains("_domainkey") && chance(90)) {
            return keyText();
        }
        if (chance(3)) {
            return "x".repeat(699 + random.nextInt(4));
        }
        return chance(5) ? one("", "v=spf", "v=spf1x", "V=spf1 all", "v=spf1\tall") : permitText();
    }

    private String permitText() {
        StringBuilder text = new StringBuilder("v=spf1");
        int terms = random.nextInt(6);
        for (int i = 0; i < terms; i++) {
            text.append(chance(90) ? " " : "  ").append(term());
        }
        text.append(chance(50) ? one(" -all", " ~all", " ?all", " all") : "");
        return text.append(chance(5) ? " " : "").toString();
    }

    private String term() {
        String host = chance(70) ? name() : one(HOSTS);
        String bits = chance(60) ? "" : "/" + random.nextInt(chance(90) ? 33 : 40);
        switch (random.nextInt(20)) {
            case 0:
            case 1:
            case 2:
            case 3:
                return one(SIGNS) + "include:" + host;
            case 4:
            case 5:
            case 6:
                return one(SIGNS) + "a" + (chance(30) ? "" : ":" + host) + bits;
            case 7:
            case 8:
            case 9:
                return one(SIGNS) + "mx" + (chance(30) ? "" : ":" + host) + bits;
            case 10:
            case 11:
            case 12:
                return one(SIGNS) + "ip4:" + one("192.0.2.1", "192.0.2.0", "10.0.0.0", "255.255.255.255", "0.00.000.0")
                        + bits;
            case 13:
            case 14:
                return one(SIGNS) + "exists:" + host;
            case 15:
            case 16:
                return "redirect=" + host;
            case 17:
                return one(OTHER_TERMS);
            case 18:
                return chance(15) ? one(WRONG_TERMS) : one(SIGNS) + "include:" + one("a.com", "b.com", "c.b.com");
            default:
                return one(SIGNS) + "mx";
        }
    }

    private String policyText() {
        String start = chance(92) ? "v=DMARC1" : one("v=DMARC", "v=DMARC10", " v=DMARC1", "v=dmarc1");
        String text = start + one("; ", ";", " ; ") + "p=" + one("none", "quarantine", "reject", "reject", "no", "");
        text += chance(30) ? ";sp=" + one("none", "quarantine", "reject", "x") : "";
        text += chance(30) ? "; adkim=" + one("s", "r", "x") : "";
        text += chance(30) ? ";\taspf = " + one("s", "r", "") : "";
        text += chance(4) ? ";;" : chance(4) ? ";p=none" : chance(10) ? ";" : "";
        return chance(4) ? start + one("", ";", "; p") : text;
    }

    private String keyText() {
        String key = SIGNERS[random.nextInt(2)].key();
        if (chance(8)) {
            key = one("", "AAAA", "A" + key.substring(1), key.substring(0, 85) + "A==", key.substring(0, 85) + "B==",
                    key + "=");
        }
        String text = chance(50) ? "v=" + (chance(90) ? "DKIM1" : "DKIM2") + "; " : "";
        text += chance(50) ? "k=" + (chance(90) ? "rsa" : "x") + ";" : "";
        return text + "p=" + key.substring(0, key.length() / 2) + one("", " ", "\n\t") + key.substring(key.length() / 2)
                + one("", ";", "", ";;");
    }

    private void playSender() {
        String text = (chance(92) ? one("joe", "j.o.e", "a+b", "x", "abcdefghij.bcdefghij_bcdefghij") : one("", "J", ".j@"))
                + "@" + (chance(93) ? name() : one(WRONG_NAMES));
        int address = ADDRESSES[random.nextInt(ADDRESSES.length)];
        tape(text);
        Gate.due(run + "sender of " + text, gate.gate.sender(address), model.sender(address));
    }

    private void playPermission() {
        Gate.due(run + "permission()", gate.gate.permission(), number(model.permission(), 0));
        playCost();
    }

    private void playCost() {
        for (int what = -1; what <= 2; what++) {
            Gate.due(run + "cost(" + what + ")", gate.gate.cost(what), model.cost(what));
        }
    }

    private void playSealed() {
        Gate.due(run + "seals()", gate.gate.seals(), model.seals());
        for (int k = -1; k <= model.seals(); k++) {
            int now = chance(90) ? random.nextInt(300) : random.nextInt();
            Gate.due(run + "sealed(" + k + ", " + now + ")", gate.gate.sealed(k, now), number(model.sealed(k, now), 20));
        }
    }

    private void playWish() {
        int now = chance(95) ? random.nextInt(300) : random.nextInt();
        Gate.due(run + "wish(" + now + ")", gate.gate.wish(now), number(model.wish(now), 40));
        playCost();
    }

    private void playPlain() {
        boolean relaxed = chance(50);
        Gate.due(run + "plainBody", gate.gate.plainBody(relaxed), model.plainBody(relaxed));
        compareOut();
        int k = random.nextInt(8) - 1;
        Gate.due(run + "plainField(" + k + ")", gate.gate.plainField(k, relaxed), model.plainField(k, relaxed));
        compareOut();
    }

    private void playMessage() {
        String body = one(BODIES);
        List<String> fields = new ArrayList<>();
        fields.add(chance(92) ? one("From: ", "FROM:\t", "from:") + one("", "X <", "\"q@z\" <\n ") + "joe@"
                + (chance(60) ? "a.com" : one(DOMAINS)) + one("", ">", " x", "\n\t(c)") : one("To: x", "From:", "From: a"));
        fields.add(one("To: b", "Subject:  two \t words\n and more ", "to:c", "X-1: \u00e4\u0000"));
        if (chance(15)) {
            fields.add(one("From: x@b.com", "To: d", "Subject:"));
        }
        int seals = random.nextInt(3);
        for (int i = 0; i < seals; i++) {
            fields.add(random.nextInt(fields.size() + 1), sealField(body));
        }
        String text = SIGNERS[chance(75) ? 0 : 1].message(body, fields.toArray(new String[0]));
        text = chance(80) ? text : changed(text);
        tape(text);
        Gate.due(run + "message() of " + text, gate.gate.message(), model.message());
    }

    private String sealField(String body) {
        String domain = chance(60) ? "a.com" : one("mail.a.com", "b.com", "A.com", "x.mail.a.com");
        String plain = one("", "simple", "relaxed", "simple/relaxed", "relaxed/relaxed", "relaxed/simple");
        int length = chance(20) ? random.nextInt(8) : -1;
        String text = one("DKIM-Signature: ", "dkim-signature:\n\t") + "v=1; a=rsa-sha256; d=" + domain + "; s="
                + (domain.equals("b.com") ? "k1" : "k0") + ";";
        text += plain.isEmpty() ? "" : one("", " ", "\n ") + "c=" + plain + ";";
        text += length >= 0 ? "l=" + length + "; " : "";
        text += chance(20) ? "x=" + random.nextInt(300) + ";" : "";
        text += "h=" + one("from", "From:To", "from : to:\n subject:from", "from:from:to:dkim-signature", "from:x-1")
                + ";" + one("", "q=dns/txt ;", "z=;");
        text += "bh=" + Signer.bodySum(body, plain.endsWith("/relaxed"), length) + one(";", "; ", ";\n ");
        return text + one("b=B!", "b=B!;", " b = B! ; t=1", "b\n =\tB!");
    }

    /** A text with one sign made another, left out, or doubled. */
    private String changed(String text) {
        int at = random.nextInt(text.length());
        String sign = one("a", "=", ";", ":", "\n", " ", "\t", "A", "1", "");
        return text.substring(0, at) + sign + text.substring(chance(70) ? at + 1 : at);
    }
}
