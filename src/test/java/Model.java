import java.math.BigInteger;
import java.nio.charset.StandardCharsets;
import java.security.MessageDigest;
import java.util.ArrayList;
import java.util.Arrays;
import java.util.Base64;
import java.util.Collections;
import java.util.HashSet;
import java.util.LinkedHashMap;
import java.util.List;
import java.util.Map;
import java.util.Set;
import java.util.regex.Matcher;
import java.util.regex.Pattern;

/** The document once more, written with the Java library and without a thought of speed, to compare with. */
final class Model {
    private static final String MACRO = "%(?:[%_-]|\\{[slodi][1-9]?r?\\})";
    private static final String HOST = "(?:[!-$&-~]|" + MACRO + ")+";
    private static final String HOST_NO_SLASH = "(?:[!-$&-.0-~]|" + MACRO + ")+";
    private static final String BITS = "(?:/([0-9]{1,2}))?";
    private static final Pattern ALL = Pattern.compile("([+?~-]?)all");
    private static final Pattern ON_HOST = Pattern.compile("([+?~-]?)(include|exists):(" + HOST + ")");
    private static final Pattern ON_NET = Pattern.compile("([+?~-]?)(a|mx)(?::(" + HOST_NO_SLASH + "))?" + BITS);
    private static final Pattern IP4 = Pattern.compile(
            "([+?~-]?)ip4:([0-9]{1,3})\\.([0-9]{1,3})\\.([0-9]{1,3})\\.([0-9]{1,3})" + BITS);
    private static final Pattern REDIRECT = Pattern.compile("redirect=(" + HOST + ")");
    private static final Pattern OTHER = Pattern.compile("(?s)(?!redirect=)[a-z][a-z0-9_.-]*=.*");

    private record Entry(int sort, String name, String value, int address) {
    }

    private static final class Stop extends RuntimeException {
        private static final long serialVersionUID = 1;

        final int answer;

        Stop(int answer) {
            super(null, null, false, false);
            this.answer = answer;
        }
    }

    private final List<Entry> entries = new ArrayList<>();
    private String tape = "";
    private String out = "";
    private String local = null;
    private String domain = null;
    private int address = 0;
    private int counted = 0;
    private int voids = 0;
    private List<String> fields = null;
    private String body = "";

    private String taken() {
        String text = tape;
        tape = "";
        return text;
    }

    static boolean isName(String text) {
        return text.length() <= 60 && text.matches("[a-z0-9_-]{1,20}(\\.[a-z0-9_-]{1,20})*");
    }

    int feed(int a, int b, int c, int d, int e) {
        if (tape.length() > 2980) {
            return -3;
        }
        StringBuilder more = new StringBuilder(tape);
        for (int word : new int[] {a, b, c, d, e}) {
            for (int shift = 24; shift >= 0; shift -= 8) {
                more.append((char) (word >>> shift & 255));
            }
        }
        tape = more.toString();
        return tape.length();
    }

    int end(int n) {
        if (n < 0 || n > tape.length()) {
            return -1;
        }
        tape = tape.substring(0, n);
        return n;
    }

    int entry(int sort, int number) {
        String text = taken();
        if (entries.size() == 40) {
            return -3;
        }
        int blank = text.indexOf(' ');
        boolean valued = sort == 0 || sort == 2;
        String name = valued && blank >= 0 ? text.substring(0, blank) : text;
        String value = valued && blank >= 0 ? text.substring(blank + 1) : "";
        if (sort < 0 || sort > 4 || valued && blank < 0 || !isName(name)) {
            return -1;
        }
        if (sort == 0 && value.length() > 700 || sort == 2 && !isName(value)) {
            return -1;
        }
        entries.add(new Entry(sort, name, value, number));
        return entries.size();
    }

    int forget() {
        int had = entries.size();
        entries.clear();
        return had;
    }

    int sender(int from) {
        String text = taken();
        int sign = text.indexOf('@');
        if (sign < 0 || !text.substring(0, sign).matches("[a-z0-9._+-]{1,30}") || !isName(text.substring(sign + 1))) {
            return -1;
        }
        local = text.substring(0, sign);
        domain = text.substring(sign + 1);
        address = from;
        return 0;
    }

    private List<Entry> of(int sort, String name) {
        List<Entry> found = new ArrayList<>();
        for (Entry entry : entries) {
            if (entry.sort == sort && entry.name.equals(name)) {
                found.add(entry);
            }
        }
        return found;
    }

    private void stopIfTroubled(String name) {
        if (!of(3, name).isEmpty()) {
            throw new Stop(5);
        }
    }

    int permission() {
        if (domain == null) {
            return -1;
        }
        counted = 0;
        voids = 0;
        try {
            return check(domain);
        } catch (Stop stop) {
            return stop.answer;
        }
    }

    int cost(int what) {
        return what == 0 ? counted : what == 1 ? voids : -1;
    }

    private int check(String name) {
        stopIfTroubled(name);
        List<String> texts = new ArrayList<>();
        for (Entry entry : of(0, name)) {
            if (entry.value.equals("v=spf1") || entry.value.startsWith("v=spf1 ")) {
                texts.add(entry.value);
            }
        }
        if (texts.isEmpty()) {
            return 0;
        }
        if (texts.size() > 1) {
            throw new Stop(6);
        }
        List<String> terms = new ArrayList<>();
        for (String term : texts.get(0).substring(6).split(" ")) {
            if (!term.isEmpty()) {
                terms.add(term);
            }
        }
        String redirect = null;
        for (String term : terms) {
            Matcher matcher = REDIRECT.matcher(term);
            if (!isTerm(term) || matcher.matches() && redirect != null) {
                throw new Stop(6);
            }
            redirect = matcher.matches() ? matcher.group(1) : redirect;
        }
        for (String term : terms) {
            if (matches(term, name)) {
                return "?".equals(term.substring(0, 1)) ? 1 : term.startsWith("-") ? 3 : term.startsWith("~") ? 4 : 2;
            }
        }
        if (redirect == null) {
            return 1;
        }
        count();
        int answer = check(expanded(redirect, name));
        if (answer == 0) {
            throw new Stop(6);
        }
        return answer;
    }

    private static boolean isTerm(String term) {
        Matcher net = ON_NET.matcher(term);
        if (net.matches()) {
            return bits(net.group(4)) <= 32;
        }
        Matcher quad = IP4.matcher(term);
        if (quad.matches()) {
            for (int i = 2; i <= 5; i++) {
                if (Integer.parseInt(quad.group(i)) > 255) {
                    return false;
                }
            }
            return bits(quad.group(6)) <= 32;
        }
        return ALL.matcher(term).matches() || ON_HOST.matcher(term).matches() || REDIRECT.matcher(term).matches()
                || OTHER.matcher(term).matches();
    }

    private static int bits(String digits) {
        return digits == null ? 32 : Integer.parseInt(digits);
    }

    private static boolean isNear(int one, int other, int bits) {
        long net = 1L << (32 - bits);
        return (one & 0xffffffffL) / net == (other & 0xffffffffL) / net;
    }

    private void count() {
        counted++;
        if (counted > 10) {
            throw new Stop(6);
        }
    }

    private boolean isVoid(List<Entry> found) {
        if (!found.isEmpty()) {
            return false;
        }
        voids++;
        if (voids > 2) {
            throw new Stop(6);
        }
        return true;
    }

    private boolean hasNear(String name, int bits) {
        stopIfTroubled(name);
        for (Entry entry : of(1, name)) {
            if (isNear(entry.address, address, bits)) {
                return true;
            }
        }
        return false;
    }

    private boolean matches(String term, String name) {
        if (ALL.matcher(term).matches()) {
            return true;
        }
        Matcher quad = IP4.matcher(term);
        if (quad.matches()) {
            int net = 0;
            for (int i = 2; i <= 5; i++) {
                net = net * 256 + Integer.parseInt(quad.group(i));
            }
            return isNear(net, address, bits(quad.group(6)));
        }
        Matcher host = ON_HOST.matcher(term);
        if (host.matches()) {
            count();
            String other = expanded(host.group(3), name);
            if (host.group(2).equals("exists")) {
                stopIfTroubled(other);
                return !isVoid(of(1, other));
            }
            int answer = check(other);
            if (answer == 0) {
                throw new Stop(6);
            }
            return answer == 2;
        }
        Matcher net = ON_NET.matcher(term);
        if (!net.matches()) {
            return false;
        }
        count();
        String other = net.group(3) == null ? name : expanded(net.group(3), name);
        int bits = bits(net.group(4));
        stopIfTroubled(other);
        if (net.group(2).equals("a")) {
            return !isVoid(of(1, other)) && hasNear(other, bits);
        }
        if (isVoid(of(2, other))) {
            return false;
        }
        for (Entry exchange : of(2, other)) {
            if (hasNear(exchange.value, bits)) {
                return true;
            }
        }
        return false;
    }

    private String expanded(String host, String name) {
        StringBuilder text = new StringBuilder();
        Matcher matcher = Pattern.compile(MACRO + "|[^%]").matcher(host);
        while (matcher.find()) {
            text.append(expandedSign(matcher.group(), name));
        }
        return isName(text.toString()) ? text.toString() : "/";
    }

    private String expandedSign(String sign, String name) {
        if (sign.length() == 1) {
            return sign;
        }
        switch (sign.charAt(1)) {
            case '%':
                return "%";
            case '_':
                return " ";
            case '-':
                return "%20";
            default:
        }
        List<String> parts = new ArrayList<>(Arrays.asList(piece(sign.charAt(2), name).split("\\.", -1)));
        if (sign.endsWith("r}")) {
            Collections.reverse(parts);
        }
        String digits = sign.replaceAll("[^1-9]", "");
        int wanted = digits.isEmpty() ? parts.size() : Math.min(parts.size(), Integer.parseInt(digits));
        return String.join(".", parts.subList(parts.size() - wanted, parts.size()));
    }

    private String piece(char letter, String name) {
        switch (letter) {
            case 's':
                return local + "@" + domain;
            case 'l':
                return local;
            case 'o':
                return domain;
            case 'd':
                return name;
            default:
                return (address >>> 24) + "." + (address >>> 16 & 255) + "." + (address >>> 8 & 255) + "."
                        + (address & 255);
        }
    }

    int message() {
        String text = taken();
        int blank = text.startsWith("\n") ? 0 : text.indexOf("\n\n");
        String head = blank < 0 ? text : text.substring(0, blank);
        if (blank < 0 && head.endsWith("\n")) {
            head = head.substring(0, head.length() - 1);
        }
        List<String> found = new ArrayList<>();
        for (String line : head.split("\n", -1)) {
            if (line.startsWith(" ") || line.startsWith("\t")) {
                if (found.isEmpty()) {
                    return -1;
                }
                found.set(found.size() - 1, found.get(found.size() - 1) + "\n" + line);
            } else if (line.matches("(?s)[A-Za-z0-9-]{1,20}:.*")) {
                found.add(line);
            } else {
                return -1;
            }
        }
        if (found.size() > 20) {
            return -1;
        }
        fields = found;
        body = blank < 0 ? "" : text.substring(blank + 2);
        return fields.size();
    }

    private static String nameOf(String field) {
        return field.substring(0, field.indexOf(':')).toLowerCase();
    }

    private static String valueOf(String field) {
        return field.substring(field.indexOf(':') + 1);
    }

    private List<String> fieldsOf(String name) {
        List<String> found = new ArrayList<>();
        if (fields != null) {
            for (String field : fields) {
                if (nameOf(field).equals(name)) {
                    found.add(field);
                }
            }
        }
        return found;
    }

    int seals() {
        return fieldsOf("dkim-signature").size();
    }

    static Map<String, String> tags(String text) {
        String bare = text.replaceAll("[ \t\n]", "");
        Map<String, String> found = new LinkedHashMap<>();
        if (bare.endsWith(";")) {
            bare = bare.substring(0, bare.length() - 1);
        }
        for (String tag : bare.split(";", -1)) {
            Matcher matcher = Pattern.compile("(?s)([a-z]{1,8})=(.*)").matcher(tag);
            if (!matcher.matches() || found.put(matcher.group(1), matcher.group(2)) != null) {
                return null;
            }
        }
        return found.size() > 40 ? null : found;
    }

    private static byte[] unpacked(String text, int size) {
        if (text == null || !text.matches("[A-Za-z0-9+/]*={0,2}") || text.length() % 4 != 0) {
            return null;
        }
        byte[] bytes;
        try {
            bytes = Base64.getDecoder().decode(text);
        } catch (IllegalArgumentException wrong) {
            return null;
        }
        boolean same = Base64.getEncoder().encodeToString(bytes).equals(text);
        return same && bytes.length == size ? bytes : null;
    }

    private static boolean isWell(Map<String, String> tags) {
        if (tags == null || !"1".equals(tags.get("v")) || !"rsa-sha256".equals(tags.get("a"))) {
            return false;
        }
        if (!isName(tags.getOrDefault("d", "")) || !isName(tags.getOrDefault("s", ""))) {
            return false;
        }
        if (unpacked(tags.get("bh"), 32) == null || unpacked(tags.get("b"), 64) == null) {
            return false;
        }
        String list = tags.getOrDefault("h", "");
        if (!list.matches("[A-Za-z0-9-]{1,20}(:[A-Za-z0-9-]{1,20})*")) {
            return false;
        }
        if (!Arrays.asList(list.toLowerCase().split(":")).contains("from")) {
            return false;
        }
        return tags.getOrDefault("c", "simple").matches("(simple|relaxed)(/(simple|relaxed))?")
                && tags.getOrDefault("l", "0").matches("[0-9]{1,9}")
                && tags.getOrDefault("x", "0").matches("[0-9]{1,9}");
    }

    int sealed(int k, int now) {
        if (now < 0) {
            return -1;
        }
        List<String> seals = fieldsOf("dkim-signature");
        return k < 0 || k >= seals.size() ? -2 : judged(seals.get(k), now);
    }

    private int judged(String field, int now) {
        Map<String, String> tags = tags(valueOf(field));
        if (!isWell(tags) || fieldsOf("from").isEmpty()) {
            return 1;
        }
        if (tags.containsKey("x") && now > Integer.parseInt(tags.get("x"))) {
            return 3;
        }
        String keyName = tags.get("s") + "._domainkey." + tags.get("d");
        if (!of(3, keyName).isEmpty()) {
            return 5;
        }
        if (of(0, keyName).isEmpty()) {
            return 6;
        }
        Map<String, String> key = tags(of(0, keyName).get(0).value);
        byte[] modulus = key == null ? null : unpacked(key.get("p"), 64);
        if (modulus == null || modulus[0] >= 0 || modulus[63] % 2 == 0
                || !key.getOrDefault("v", "DKIM1").equals("DKIM1") || !key.getOrDefault("k", "rsa").equals("rsa")) {
            return 6;
        }
        String[] plain = (tags.getOrDefault("c", "simple") + "/simple").split("/");
        String bytes = plain(body, plain[1].equals("relaxed"));
        int length = Integer.parseInt(tags.getOrDefault("l", "" + bytes.length()));
        if (length > bytes.length()) {
            return 3;
        }
        if (!Arrays.equals(sum(bytes.substring(0, length)), unpacked(tags.get("bh"), 32))) {
            return 3;
        }
        BigInteger due = new BigInteger(1, padded(sum(signedText(fields, field, tags, plain[0].equals("relaxed")))));
        BigInteger got = new BigInteger(1, unpacked(tags.get("b"), 64)).modPow(BigInteger.valueOf(65537),
                new BigInteger(1, modulus));
        return got.equals(due) ? 2 : 3;
    }

    static String signedText(List<String> fields, String own, Map<String, String> tags, boolean relaxed) {
        StringBuilder text = new StringBuilder();
        Set<Integer> taken = new HashSet<>();
        for (String name : tags.get("h").toLowerCase().split(":")) {
            for (int i = fields.size() - 1; i >= 0; i--) {
                if (nameOf(fields.get(i)).equals(name) && taken.add(i)) {
                    text.append(plainField(fields.get(i), relaxed)).append("\n");
                    break;
                }
            }
        }
        String cut = own.replaceFirst("(?s)(^[^:]*:(?:[^;]*;)*?[ \t\n]*b[ \t\n]*=)[^;]*", "$1");
        return text.append(plainField(cut, relaxed)).toString();
    }

    static byte[] padded(byte[] sum) {
        byte[] block = new byte[64];
        Arrays.fill(block, 2, 12, (byte) 255);
        block[1] = 1;
        byte[] info = new BigInteger("3031300d060960864801650304020105000420", 16).toByteArray();
        System.arraycopy(info, 0, block, 13, 19);
        System.arraycopy(sum, 0, block, 32, 32);
        return block;
    }

    static byte[] sum(String text) {
        try {
            return MessageDigest.getInstance("SHA-256").digest(text.getBytes(StandardCharsets.ISO_8859_1));
        } catch (java.security.NoSuchAlgorithmException never) {
            throw new IllegalStateException(never);
        }
    }

    static String plain(String body, boolean relaxed) {
        String text = relaxed ? body.replaceAll("[ \t]+(?=\n|\\z)", "").replaceAll("[ \t]+", " ") : body;
        text = text.replaceAll("\n+\\z", "");
        return text.isEmpty() ? relaxed ? "" : "\n" : text + "\n";
    }

    static String plainField(String field, boolean relaxed) {
        if (!relaxed) {
            return field;
        }
        String value = valueOf(field).replace("\n", "").replaceAll("[ \t]+", " ");
        return nameOf(field) + ":" + value.replaceAll("^ | \\z", "");
    }

    int plainBody(boolean relaxed) {
        if (fields == null) {
            return -2;
        }
        out = plain(body, relaxed);
        return out.length();
    }

    int plainField(int k, boolean relaxed) {
        if (fields == null || k < 0 || k >= fields.size()) {
            return -2;
        }
        out = plainField(fields.get(k), relaxed);
        return out.length();
    }

    private static boolean isUnder(String name, String other) {
        return name.equals(other) || name.endsWith("." + other);
    }

    private String houseOf(String name) {
        String longest = null;
        for (Entry entry : entries) {
            boolean longer = longest == null || entry.name.length() > longest.length();
            if (entry.sort == 4 && isUnder(name, entry.name) && longer) {
                longest = entry.name;
            }
        }
        String[] parts = name.split("\\.");
        for (int count = 1; count <= parts.length; count++) {
            String tail = String.join(".", Arrays.asList(parts).subList(parts.length - count, parts.length));
            if (longest == null ? count == 2 : isUnder(tail, longest) && !tail.equals(longest)) {
                return tail;
            }
        }
        return name;
    }

    int house() {
        String name = taken();
        if (!isName(name)) {
            return -1;
        }
        out = houseOf(name);
        return out.length();
    }

    int wish(int now) {
        if (domain == null || now < 0) {
            return -1;
        }
        if (fields == null) {
            return -2;
        }
        List<String> from = fieldsOf("from");
        if (from.size() != 1 || valueOf(from.get(0)).indexOf('@') < 0) {
            return 1;
        }
        String value = valueOf(from.get(0));
        String seen = value.substring(value.lastIndexOf('@') + 1).split("[ \t\n>]", -1)[0].toLowerCase();
        if (!isName(seen)) {
            return 1;
        }
        String place = "_dmarc." + seen;
        String housePlace = "_dmarc." + houseOf(seen);
        if (!of(3, place).isEmpty()) {
            return 5;
        }
        if (records(place).size() == 1) {
            return wished(records(place).get(0), true, seen, now);
        }
        if (!of(3, housePlace).isEmpty()) {
            return 5;
        }
        return records(housePlace).size() == 1 ? wished(records(housePlace).get(0), false, seen, now) : 0;
    }

    private List<String> records(String place) {
        List<String> found = new ArrayList<>();
        for (Entry entry : of(0, place)) {
            if (entry.value.startsWith("v=DMARC1")) {
                found.add(entry.value);
            }
        }
        return found;
    }

    private int wished(String record, boolean own, String seen, int now) {
        Map<String, String> tags = tags(record);
        List<String> wants = List.of("none", "quarantine", "reject");
        if (tags == null || !wants.contains(tags.getOrDefault("p", ""))) {
            return 6;
        }
        String want = own ? tags.get("p") : tags.getOrDefault("sp", tags.get("p"));
        if (!wants.contains(want)) {
            return 6;
        }
        if (permission() == 2 && isAligned(domain, seen, tags.get("aspf"))) {
            return 2;
        }
        for (String seal : fieldsOf("dkim-signature")) {
            if (judged(seal, now) == 2 && isAligned(tags(valueOf(seal)).get("d"), seen, tags.get("adkim"))) {
                return 2;
            }
        }
        return 7 + wants.indexOf(want);
    }

    private boolean isAligned(String one, String other, String how) {
        return "s".equals(how) ? one.equals(other) : houseOf(one).equals(houseOf(other));
    }

    int digest() {
        out = new String(sum(taken()), StandardCharsets.ISO_8859_1);
        return 32;
    }

    int octet(int k) {
        return k == -1 ? out.length() : k < 0 || k >= out.length() ? -2 : out.charAt(k);
    }
}
