/** A gate for mail: who may send, who has signed, and what the domain that is seen wants done. */
public final class PostGate {
    public static final int REFUSED = -1, NONE = -2, FULL = -3;

    private static final int NOTHING = 0, NEUTRAL = 1, PASS = 2, FAIL = 3, SOFT = 4, TROUBLE = 5, BROKEN = 6;
    private static final int TAPE_ROOM = 3000, NAME_ROOM = 60, PART_ROOM = 20, VALUE_ROOM = 700;

    private final Bytes tape = new Bytes(TAPE_ROOM);
    // A body without its last byte 10 gets one, but the FIELD before it leaves more than that free.
    private final Bytes out = new Bytes(TAPE_ROOM);
    private final Directory directory = new Directory();
    private final Checker checker = new Checker(directory);
    private final Sealer sealer = new Sealer(directory);
    private final Policy policy = new Policy(directory);
    private final Sha sha = new Sha();
    private Message letter = new Message();
    // A tape that is no MESSAGE is read into the spare one, so that the one before stays.
    private Message spare = new Message();

    public PostGate() {
    }

    public int feed(int a, int b, int c, int d, int e) {
        if (tape.size + 20 > TAPE_ROOM) {
            return FULL;
        }
        tape.addFour(a);
        tape.addFour(b);
        tape.addFour(c);
        tape.addFour(d);
        tape.addFour(e);
        return tape.size;
    }

    public int end(int n) {
        if (n < 0 || n > tape.size) {
            return REFUSED;
        }
        tape.cut(n);
        return n;
    }

    public int entry(int sort, int address) {
        int answer = directory.take(sort, address, tape);
        tape.clear();
        return answer;
    }

    public int forget() {
        return directory.clear();
    }

    public int sender(int address) {
        boolean taken = checker.takeSender(address, tape);
        tape.clear();
        return taken ? 0 : REFUSED;
    }

    public int permission() {
        return checker.isReady ? checker.judge() : REFUSED;
    }

    public int cost(int what) {
        switch (what) {
            case 0:
                return checker.counted;
            case 1:
                return checker.voids;
            default:
                return REFUSED;
        }
    }

    public int message() {
        boolean read = spare.read(tape);
        tape.clear();
        if (!read) {
            return REFUSED;
        }
        Message old = letter;
        letter = spare;
        spare = old;
        return letter.count;
    }

    public int seals() {
        return letter.countOf(Sealer.FIELD);
    }

    public int sealed(int k, int now) {
        if (now < 0) {
            return REFUSED;
        }
        int field = letter.fieldOf(Sealer.FIELD, k);
        return field < 0 ? NONE : sealer.judge(letter, field, now);
    }

    public int plainBody(boolean relaxed) {
        if (letter.count == 0) {
            return NONE;
        }
        out.clear();
        letter.addBody(out, relaxed);
        return out.size;
    }

    public int plainField(int k, boolean relaxed) {
        if (k < 0 || k >= letter.count) {
            return NONE;
        }
        out.clear();
        letter.addFieldWithout(out, k, relaxed, 0, 0);
        return out.size;
    }

    public int house() {
        if (!tape.isName(0, tape.size)) {
            tape.clear();
            return REFUSED;
        }
        out.clear();
        out.addRange(tape, directory.houseStart(tape), tape.size);
        tape.clear();
        return out.size;
    }

    public int wish(int now) {
        if (!checker.isReady || now < 0) {
            return REFUSED;
        }
        if (letter.count == 0) {
            return NONE;
        }
        int known = policy.read(letter);
        if (known != Policy.OPEN) {
            return known;
        }
        boolean permitted = checker.judge() == PASS && policy.isAligned(checker.domain, policy.strictSender);
        return permitted || hasAlignedSeal(now) ? PASS : policy.wanted;
    }

    private boolean hasAlignedSeal(int now) {
        for (int k = 0; k < letter.count; k++) {
            if (!letter.isNamed(k, Sealer.FIELD) || sealer.judge(letter, k, now) != PASS) {
                continue;
            }
            if (policy.isAligned(sealer.domain, policy.strictSeal)) {
                return true;
            }
        }
        return false;
    }

    public int digest() {
        sha.sumOf(tape, tape.size, out);
        tape.clear();
        return out.size;
    }

    public int octet(int k) {
        if (k == -1) {
            return out.size;
        }
        return k < 0 || k >= out.size ? NONE : out.at(k);
    }

    /** A row of bytes with a fixed room. */
    private static final class Bytes {
        private final int[] row;
        private int size = 0;
        // Remembers that something did not fit, so that a name cut short is never taken for another one.
        private boolean over = false;

        Bytes(int room) {
            row = new int[room];
        }

        static boolean isWhite(int c) {
            return c == 32 || c == 9;
        }

        static boolean isSmall(int c) {
            return c >= 'a' && c <= 'z';
        }

        static boolean isDigit(int c) {
            return c >= '0' && c <= '9';
        }

        static boolean isFieldSign(int c) {
            return isSmall(smallOf(c)) || isDigit(c) || c == '-';
        }

        static int smallOf(int c) {
            return c >= 'A' && c <= 'Z' ? c + 32 : c;
        }

        void clear() {
            size = 0;
            over = false;
        }

        void cut(int n) {
            if (n >= 0 && n < size) {
                size = n;
            }
        }

        int at(int i) {
            return i < 0 || i >= size ? -1 : row[i];
        }

        void add(int b) {
            if (size < row.length) {
                row[size] = b;
                size++;
            } else {
                over = true;
            }
        }

        void addFour(int word) {
            for (int shift = 24; shift >= 0; shift -= 8) {
                add(word >>> shift & 255);
            }
        }

        void addText(String text) {
            for (int i = 0; i < text.length(); i++) {
                add(text.charAt(i));
            }
        }

        void addRange(Bytes from, int start, int end) {
            int first = Math.max(0, start);
            int count = Math.min(end, from.size) - first;
            int fitting = Math.min(count, row.length - size);
            if (fitting > 0) {
                System.arraycopy(from.row, first, row, size, fitting);
                size += fitting;
            }
            over = over || fitting < count;
        }

        void copy(Bytes from) {
            clear();
            addRange(from, 0, from.size);
        }

        boolean is(int start, int end, String text) {
            if (start < 0 || end > size || end - start != text.length()) {
                return false;
            }
            for (int i = start; i < end; i++) {
                if (row[i] != text.charAt(i - start)) {
                    return false;
                }
            }
            return true;
        }

        boolean begins(int start, int end, String text) {
            return end - start >= text.length() && is(start, start + text.length(), text);
        }

        /** Where the sign first stands in the range; its end if nowhere. */
        int find(int sign, int start, int end) {
            for (int i = Math.max(0, start); i < end && i < size; i++) {
                if (row[i] == sign) {
                    return i;
                }
            }
            return end;
        }

        /** Where the sign last stands in the range; before its start if nowhere. */
        int findLast(int sign, int start, int end) {
            for (int i = end - 1; i >= start; i--) {
                if (at(i) == sign) {
                    return i;
                }
            }
            return start - 1;
        }

        /** Where the part begins that has so many dots before it. */
        int partStart(int dots) {
            int left = dots;
            for (int i = 0; i < size && left > 0; i++) {
                left -= row[i] == '.' ? 1 : 0;
                if (left == 0) {
                    return i + 1;
                }
            }
            return 0;
        }

        boolean isName(int start, int end) {
            if (over || end - start < 1 || end - start > NAME_ROOM) {
                return false;
            }
            int part = 0;
            for (int i = start; i < end; i++) {
                int c = at(i);
                boolean dot = c == '.';
                if (dot ? part == 0 : part == PART_ROOM || !isSmall(c) && !isDigit(c) && c != '-' && c != '_') {
                    return false;
                }
                part = dot ? 0 : part + 1;
            }
            return part > 0;
        }

        boolean same(Bytes other) {
            if (size != other.size || over || other.over) {
                return false;
            }
            for (int i = 0; i < size; i++) {
                if (row[i] != other.row[i]) {
                    return false;
                }
            }
            return true;
        }

        boolean isUnder(Bytes other) {
            if (over || other.over || size < other.size || !endsLike(other, other.size)) {
                return false;
            }
            return size == other.size || row[size - other.size - 1] == '.';
        }

        /** Whether the last n bytes are the same in both. */
        boolean endsLike(Bytes other, int n) {
            if (n > size || n > other.size) {
                return false;
            }
            for (int i = 1; i <= n; i++) {
                if (row[size - i] != other.row[other.size - i]) {
                    return false;
                }
            }
            return true;
        }

        /** Becomes the wanted number of bytes that the range tells in BASE 64; false if it tells none such. */
        boolean decode(Bytes text, int start, int end, int wanted) {
            clear();
            int signs = (wanted * 4 + 2) / 3;
            if (end - start != (wanted + 2) / 3 * 4) {
                return false;
            }
            int held = 0;
            int bits = 0;
            for (int i = start; i < start + signs; i++) {
                int six = sixOf(text.at(i));
                if (six < 0) {
                    return false;
                }
                held = held << 6 | six;
                bits += 6;
                if (bits >= 8) {
                    bits -= 8;
                    add(held >>> bits);
                    held &= (1 << bits) - 1;
                }
            }
            for (int i = start + signs; i < end; i++) {
                if (text.at(i) != '=') {
                    return false;
                }
            }
            return held == 0;
        }

        static int sixOf(int c) {
            if (c >= 'A' && c <= 'Z') {
                return c - 'A';
            }
            if (isSmall(c)) {
                return c - 'a' + 26;
            }
            if (isDigit(c)) {
                return c - '0' + 52;
            }
            return c == '+' ? 62 : c == '/' ? 63 : -1;
        }
    }

    /** One entry of THE DIRECTORY. */
    private static final class Entry {
        private final Bytes name = new Bytes(NAME_ROOM);
        private final Bytes value = new Bytes(VALUE_ROOM);
        private int sort = 0;
        private int address = 0;
    }

    /** THE DIRECTORY. */
    private static final class Directory {
        private static final int TEXTS = 0, ADDRESSES = 1, EXCHANGES = 2, TROUBLES = 3, SUFFIXES = 4, MOST = 40;
        private static final int NO_TEXT = -1, MORE_TEXTS = -2;

        private final Entry[] entries = new Entry[MOST];
        private int count = 0;

        Directory() {
            for (int i = 0; i < MOST; i++) {
                entries[i] = new Entry();
            }
        }

        int take(int sort, int address, Bytes tape) {
            if (count == MOST) {
                return FULL;
            }
            boolean valued = sort == TEXTS || sort == EXCHANGES;
            int nameEnd = valued ? tape.find(32, 0, tape.size) : tape.size;
            if (sort < TEXTS || sort > SUFFIXES || !tape.isName(0, nameEnd)) {
                return REFUSED;
            }
            if (valued && !isValue(sort, tape, nameEnd)) {
                return REFUSED;
            }
            Entry fresh = entries[count];
            fresh.sort = sort;
            fresh.address = address;
            fresh.name.clear();
            fresh.name.addRange(tape, 0, nameEnd);
            fresh.value.clear();
            fresh.value.addRange(tape, nameEnd + 1, tape.size);
            count++;
            return count;
        }

        private static boolean isValue(int sort, Bytes tape, int blank) {
            if (blank == tape.size) {
                return false;
            }
            return sort == EXCHANGES ? tape.isName(blank + 1, tape.size) : tape.size - blank - 1 <= VALUE_ROOM;
        }

        int clear() {
            int had = count;
            count = 0;
            return had;
        }

        boolean has(int sort, Bytes name) {
            for (int i = 0; i < count; i++) {
                if (entries[i].sort == sort && entries[i].name.same(name)) {
                    return true;
                }
            }
            return false;
        }

        boolean hasAddress(Bytes name, int address, int bits) {
            for (int i = 0; i < count; i++) {
                if (entries[i].sort != ADDRESSES || !Term.isSameNet(entries[i].address, address, bits)) {
                    continue;
                }
                if (entries[i].name.same(name)) {
                    return true;
                }
            }
            return false;
        }

        Bytes valueAt(int i) {
            return entries[i >= 0 && i < MOST ? i : 0].value;
        }

        int firstText(Bytes name) {
            for (int i = 0; i < count; i++) {
                if (entries[i].sort == TEXTS && entries[i].name.same(name)) {
                    return i;
                }
            }
            return NO_TEXT;
        }

        /** The one TEXT of the name that begins so, with a blank or nothing behind if that is asked for. */
        int onlyText(Bytes name, String start, boolean blankBehind) {
            int found = NO_TEXT;
            for (int i = 0; i < count; i++) {
                Bytes value = entries[i].value;
                if (entries[i].sort != TEXTS || !entries[i].name.same(name) || !value.begins(0, value.size, start)) {
                    continue;
                }
                if (blankBehind && value.size > start.length() && value.at(start.length()) != 32) {
                    continue;
                }
                found = found == NO_TEXT ? i : MORE_TEXTS;
            }
            return found;
        }

        /** Where in the name its HOUSE begins. */
        int houseStart(Bytes name) {
            int longest = -1;
            for (int i = 0; i < count; i++) {
                if (entries[i].sort == SUFFIXES && name.isUnder(entries[i].name)) {
                    longest = Math.max(longest, entries[i].name.size);
                }
            }
            if (longest == name.size) {
                return 0;
            }
            int dot = longest < 0 ? name.findLast('.', 0, name.size) : name.size - longest - 1;
            return name.findLast('.', 0, dot) + 1;
        }

        boolean isSameHouse(Bytes one, Bytes other) {
            int length = one.size - houseStart(one);
            return length == other.size - houseStart(other) && one.endsLike(other, length);
        }
    }

    /** One TERM of a text of permission. */
    private static final class Term {
        private static final int WRONG = 0, ALL = 1, INCLUDE = 2, A = 3, MX = 4, IP4 = 5, EXISTS = 6, REDIRECT = 7,
                OTHER = 8;

        private int kind = WRONG;
        private int sign = '+';
        // Its D, as a range of the text; an empty one where it has none.
        private int start = 0;
        private int stop = 0;
        private int bits = 32;
        private int address = 0;

        static boolean isSameNet(int one, int other, int bits) {
            return bits <= 0 || (one ^ other) >>> (32 - bits) == 0;
        }

        void read(Bytes text, int from, int to) {
            readKind(text, from, to);
            stop = to;
            bits = 32;
            if (kind == IP4 || kind == A || kind == MX) {
                stop = text.find('/', start, to);
                bits = stop == to ? 32 : numberOf(text, stop + 1, to, 2);
            }
            boolean right = bits >= 0 && bits <= 32;
            if (kind == IP4) {
                right = right && readQuad(text, start, stop);
            } else if (kind == A || kind == MX) {
                boolean bare = text.at(start - 1) != ':';
                right = right && (bare ? start == stop : isHost(text, start, stop));
            } else if (kind == INCLUDE || kind == EXISTS || kind == REDIRECT) {
                right = isHost(text, start, stop);
            }
            kind = right ? kind : WRONG;
        }

        /** The kind, the SIGN, and where what is behind the word begins. */
        private void readKind(Bytes text, int from, int to) {
            sign = '+';
            if (text.begins(from, to, "redirect=")) {
                setKind(REDIRECT, from + 9);
                return;
            }
            if (isOther(text, from, to)) {
                setKind(OTHER, to);
                return;
            }
            int first = text.at(from);
            boolean signed = first == '+' || first == '?' || first == '~' || first == '-';
            sign = signed ? first : '+';
            int word = signed ? from + 1 : from;
            if (text.is(word, to, "all")) {
                setKind(ALL, to);
            } else if (text.begins(word, to, "include:")) {
                setKind(INCLUDE, word + 8);
            } else if (text.begins(word, to, "exists:")) {
                setKind(EXISTS, word + 7);
            } else if (text.begins(word, to, "ip4:")) {
                setKind(IP4, word + 4);
            } else if (text.begins(word, to, "mx")) {
                setKind(MX, text.begins(word, to, "mx:") ? word + 3 : word + 2);
            } else if (text.begins(word, to, "a")) {
                setKind(A, text.begins(word, to, "a:") ? word + 2 : word + 1);
            } else {
                setKind(WRONG, to);
            }
        }

        private void setKind(int wanted, int behind) {
            kind = wanted;
            start = behind;
        }

        private static boolean isOther(Bytes text, int from, int to) {
            int sign = text.find('=', from, to);
            if (sign == to || !Bytes.isSmall(text.at(from))) {
                return false;
            }
            for (int i = from; i < sign; i++) {
                int c = text.at(i);
                if (!Bytes.isSmall(c) && !Bytes.isDigit(c) && c != '-' && c != '_' && c != '.') {
                    return false;
                }
            }
            return true;
        }

        private boolean readQuad(Bytes text, int from, int to) {
            int numbers = 0;
            int dot = from - 1;
            address = 0;
            for (int i = from; i <= to; i++) {
                if (i < to && text.at(i) != '.') {
                    continue;
                }
                int number = numberOf(text, dot + 1, i, 3);
                if (number < 0 || number > 255) {
                    return false;
                }
                address = address << 8 | number;
                numbers++;
                dot = i;
            }
            return numbers == 4;
        }

        /** The number that the range tells with one digit at least and so many at most (nine or less); else -1. */
        static int numberOf(Bytes text, int from, int to, int most) {
            if (to - from < 1 || to - from > most) {
                return -1;
            }
            int number = 0;
            for (int i = from; i < to; i++) {
                if (!Bytes.isDigit(text.at(i))) {
                    return -1;
                }
                number = number * 10 + text.at(i) - '0';
            }
            return number;
        }

        private static boolean isHost(Bytes text, int from, int to) {
            int step = 1;
            for (int i = from; i < to; i += step) {
                int c = text.at(i);
                int macro = macroLength(text, i, to);
                if (c < 33 || c > 126 || c == '%' && macro == 0) {
                    return false;
                }
                step = Math.max(1, macro);
            }
            return from < to;
        }

        /** How many signs the MACRO has that begins there; 0 if none does. */
        static int macroLength(Bytes text, int from, int to) {
            if (text.at(from) != '%' || from + 1 >= to) {
                return 0;
            }
            int next = text.at(from + 1);
            if (next == '%' || next == '_' || next == '-') {
                return 2;
            }
            int letter = text.at(from + 2);
            if (next != '{' || letter != 's' && letter != 'l' && letter != 'o' && letter != 'd' && letter != 'i') {
                return 0;
            }
            int i = from + 3;
            if (text.at(i) >= '1' && text.at(i) <= '9') {
                i++;
            }
            if (text.at(i) == 'r') {
                i++;
            }
            return i < to && text.at(i) == '}' ? i + 1 - from : 0;
        }
    }

    /** THE SENDER, and the CHECK of its DOMAIN. */
    private static final class Checker {
        private static final int MOST_COUNTED = 10, MOST_VOIDS = 2, LOCAL_ROOM = 30;
        // Each CHECK within a CHECK is COUNTED before, so that there are never more levels open.
        private static final int LEVELS = MOST_COUNTED + 1;
        private static final int NO_REDIRECT = 0, WRONG_TERM = -1;
        private static final String START = "v=spf1";

        private final Directory directory;
        private final Bytes whole = new Bytes(LOCAL_ROOM + 1 + NAME_ROOM);
        private final Bytes local = new Bytes(LOCAL_ROOM);
        private final Bytes domain = new Bytes(NAME_ROOM);
        private final Bytes quad = new Bytes(15);
        private final Bytes[] names = new Bytes[LEVELS + 1];
        private final Term[] terms = new Term[LEVELS];
        private int address = 0;
        private boolean isReady = false;
        private int counted = 0;
        private int voids = 0;

        Checker(Directory directory) {
            this.directory = directory;
            for (int i = 0; i < LEVELS; i++) {
                names[i] = new Bytes(NAME_ROOM);
                terms[i] = new Term();
            }
            names[LEVELS] = new Bytes(NAME_ROOM);
        }

        boolean takeSender(int from, Bytes tape) {
            int sign = tape.find('@', 0, tape.size);
            if (!isLocal(tape, sign) || !tape.isName(sign + 1, tape.size)) {
                return false;
            }
            whole.copy(tape);
            local.clear();
            local.addRange(tape, 0, sign);
            domain.clear();
            domain.addRange(tape, sign + 1, tape.size);
            address = from;
            quad.clear();
            addQuad();
            isReady = true;
            return true;
        }

        private static boolean isLocal(Bytes tape, int end) {
            for (int i = 0; i < end; i++) {
                int c = tape.at(i);
                boolean mark = c == '.' || c == '-' || c == '_' || c == '+';
                if (!mark && !Bytes.isSmall(c) && !Bytes.isDigit(c)) {
                    return false;
                }
            }
            return end >= 1 && end <= LOCAL_ROOM;
        }

        private void addQuad() {
            for (int shift = 24; shift >= 0; shift -= 8) {
                int number = address >>> shift & 255;
                if (number >= 100) {
                    quad.add('0' + number / 100);
                }
                if (number >= 10) {
                    quad.add('0' + number / 10 % 10);
                }
                quad.add('0' + number % 10);
                if (shift > 0) {
                    quad.add('.');
                }
            }
        }

        int judge() {
            counted = 0;
            voids = 0;
            names[0].copy(domain);
            return check(0);
        }

        /** CHECK of the name of the level. */
        private int check(int level) {
            if (level >= LEVELS) {
                return BROKEN;
            }
            if (directory.has(Directory.TROUBLES, names[level])) {
                return TROUBLE;
            }
            int row = directory.onlyText(names[level], START, true);
            if (row < 0) {
                return row == Directory.NO_TEXT ? NOTHING : BROKEN;
            }
            Bytes text = directory.valueAt(row);
            Term term = terms[level];
            int redirect = readTerms(text, term);
            if (redirect == WRONG_TERM) {
                return BROKEN;
            }
            for (int i = START.length() + 1; i < text.size; i++) {
                if (!startsTerm(text, i)) {
                    continue;
                }
                term.read(text, i, text.find(32, i, text.size));
                int answer = match(text, level);
                if (answer != NOTHING) {
                    return answer == PASS ? answerOf(term.sign) : answer;
                }
            }
            if (redirect == NO_REDIRECT) {
                return NEUTRAL;
            }
            term.read(text, redirect, text.find(32, redirect, text.size));
            return follow(text, level);
        }

        private static boolean startsTerm(Bytes text, int at) {
            return text.at(at - 1) == 32 && text.at(at) != 32;
        }

        /** Where redirect stands, if all TERMS are right and it is there. */
        private static int readTerms(Bytes text, Term term) {
            int redirect = NO_REDIRECT;
            for (int i = START.length() + 1; i < text.size; i++) {
                if (!startsTerm(text, i)) {
                    continue;
                }
                term.read(text, i, text.find(32, i, text.size));
                boolean redirects = term.kind == Term.REDIRECT;
                if (term.kind == Term.WRONG || redirects && redirect != NO_REDIRECT) {
                    return WRONG_TERM;
                }
                redirect = redirects ? i : redirect;
            }
            return redirect;
        }

        private int follow(Bytes text, int level) {
            if (isCountedOut()) {
                return BROKEN;
            }
            expand(text, level);
            int answer = check(level + 1);
            return answer == NOTHING ? BROKEN : answer;
        }

        private static int answerOf(int sign) {
            switch (sign) {
                case '?':
                    return NEUTRAL;
                case '~':
                    return SOFT;
                case '-':
                    return FAIL;
                default:
                    return PASS;
            }
        }

        private boolean isCountedOut() {
            counted++;
            return counted > MOST_COUNTED;
        }

        /** PASS if the TERM of the level matches, NOTHING if not; TROUBLE or BROKEN if that ends it all. */
        private int match(Bytes text, int level) {
            Term term = terms[level];
            if (term.kind == Term.ALL) {
                return PASS;
            }
            if (term.kind == Term.IP4) {
                return Term.isSameNet(address, term.address, term.bits) ? PASS : NOTHING;
            }
            if (term.kind == Term.REDIRECT || term.kind == Term.OTHER) {
                return NOTHING;
            }
            if (isCountedOut()) {
                return BROKEN;
            }
            expand(text, level);
            if (term.kind != Term.INCLUDE) {
                return look(term, names[level + 1]);
            }
            int answer = check(level + 1);
            if (answer == NEUTRAL || answer == SOFT || answer == FAIL) {
                return NOTHING;
            }
            return answer == NOTHING ? BROKEN : answer;
        }

        private int look(Term term, Bytes name) {
            if (directory.has(Directory.TROUBLES, name)) {
                return TROUBLE;
            }
            if (!directory.has(term.kind == Term.MX ? Directory.EXCHANGES : Directory.ADDRESSES, name)) {
                voids++;
                return voids > MOST_VOIDS ? BROKEN : NOTHING;
            }
            if (term.kind == Term.MX) {
                return lookAtExchanges(name, term.bits);
            }
            return term.kind == Term.EXISTS || directory.hasAddress(name, address, term.bits) ? PASS : NOTHING;
        }

        private int lookAtExchanges(Bytes name, int bits) {
            for (int i = 0; i < directory.count; i++) {
                if (directory.entries[i].sort != Directory.EXCHANGES || !directory.entries[i].name.same(name)) {
                    continue;
                }
                Bytes exchange = directory.valueAt(i);
                if (directory.has(Directory.TROUBLES, exchange)) {
                    return TROUBLE;
                }
                if (directory.hasAddress(exchange, address, bits)) {
                    return PASS;
                }
            }
            return NOTHING;
        }

        /** What becomes of the D of the level's TERM is the name of the next level. */
        private void expand(Bytes text, int level) {
            Term term = terms[level];
            Bytes target = names[level + 1];
            if (term.start == term.stop) {
                target.copy(names[level]);
                return;
            }
            target.clear();
            int step = 1;
            for (int i = term.start; i < term.stop; i += step) {
                int macro = Term.macroLength(text, i, term.stop);
                if (macro == 0) {
                    target.add(text.at(i));
                } else {
                    addMacro(text, i, macro, level);
                }
                step = Math.max(1, macro);
            }
        }

        private void addMacro(Bytes text, int start, int length, int level) {
            Bytes target = names[level + 1];
            switch (text.at(start + 1)) {
                case '%':
                    target.add('%');
                    break;
                case '_':
                    target.add(32);
                    break;
                case '-':
                    target.addText("%20");
                    break;
                default:
                    int digit = text.at(start + 3) - '0';
                    boolean turned = text.at(start + length - 2) == 'r';
                    addParts(pieceOf(text.at(start + 2), level), digit >= 1 && digit <= 9 ? digit : 0, turned, target);
            }
        }

        private Bytes pieceOf(int letter, int level) {
            switch (letter) {
                case 's':
                    return whole;
                case 'l':
                    return local;
                case 'o':
                    return domain;
                case 'i':
                    return quad;
                default:
                    return names[level];
            }
        }

        /** The last so many parts, all of them for 0; turned round first, they are the piece's first ones. */
        private static void addParts(Bytes piece, int wanted, boolean turned, Bytes target) {
            int parts = 1;
            for (int i = 0; i < piece.size; i++) {
                parts += piece.at(i) == '.' ? 1 : 0;
            }
            int count = wanted == 0 ? parts : Math.min(wanted, parts);
            for (int k = 0; k < count; k++) {
                if (k > 0) {
                    target.add('.');
                }
                int start = piece.partStart(turned ? count - 1 - k : parts - count + k);
                target.addRange(piece, start, piece.find('.', start, piece.size));
            }
        }
    }

    /** A MESSAGE: its bytes, and where its FIELDS and its BODY stand. */
    private static final class Message {
        private static final int MOST = 20, NAME_MOST = 20;

        private final Bytes text = new Bytes(TAPE_ROOM);
        private final int[] starts = new int[MOST];
        private final int[] colons = new int[MOST];
        // Without the last byte 10.
        private final int[] ends = new int[MOST];
        private int count = 0;
        private int bodyStart = 0;

        boolean read(Bytes tape) {
            text.copy(tape);
            count = 0;
            bodyStart = text.size;
            int start = 0;
            for (int i = 0; i <= text.size; i++) {
                boolean last = i == text.size;
                if (!last && text.at(i) != 10 || last && start == i) {
                    continue;
                }
                if (start == i) {
                    bodyStart = i + 1;
                    break;
                }
                if (!takeLine(start, i)) {
                    return false;
                }
                start = i + 1;
            }
            return count > 0;
        }

        private boolean takeLine(int start, int end) {
            if (Bytes.isWhite(text.at(start))) {
                if (count > 0) {
                    ends[count - 1] = end;
                }
                return count > 0;
            }
            int colon = text.find(':', start, end);
            if (count == MOST || colon == end || !isFieldName(text, start, colon)) {
                return false;
            }
            starts[count] = start;
            colons[count] = colon;
            ends[count] = end;
            count++;
            return true;
        }

        static boolean isFieldName(Bytes row, int start, int end) {
            for (int i = start; i < end; i++) {
                if (!Bytes.isFieldSign(row.at(i))) {
                    return false;
                }
            }
            return end - start >= 1 && end - start <= NAME_MOST;
        }

        /** Whether the FIELD has this name, which is in small letters. */
        boolean isNamed(int k, String name) {
            if (k < 0 || k >= count || colons[k] - starts[k] != name.length()) {
                return false;
            }
            for (int i = 0; i < name.length(); i++) {
                if (Bytes.smallOf(text.at(starts[k] + i)) != name.charAt(i)) {
                    return false;
                }
            }
            return true;
        }

        boolean isNamedLike(int k, Bytes row, int start, int end) {
            if (k < 0 || k >= count || colons[k] - starts[k] != end - start) {
                return false;
            }
            for (int i = 0; i < end - start; i++) {
                if (Bytes.smallOf(text.at(starts[k] + i)) != Bytes.smallOf(row.at(start + i))) {
                    return false;
                }
            }
            return true;
        }

        int countOf(String name) {
            int found = 0;
            for (int k = 0; k < count; k++) {
                found += isNamed(k, name) ? 1 : 0;
            }
            return found;
        }

        /** The FIELD that is the n-th of its name; -1 if there is none. */
        int fieldOf(String name, int n) {
            int left = n;
            for (int k = 0; k < count; k++) {
                if (!isNamed(k, name)) {
                    continue;
                }
                if (left == 0) {
                    return k;
                }
                left--;
            }
            return -1;
        }

        /** The FIELD made PLAIN, but for what stands in the range. */
        void addFieldWithout(Bytes target, int k, boolean relaxed, int cutStart, int cutEnd) {
            if (k < 0 || k >= count) {
                return;
            }
            if (relaxed) {
                for (int i = starts[k]; i < colons[k]; i++) {
                    target.add(Bytes.smallOf(text.at(i)));
                }
                target.add(':');
                addRelaxedValue(target, k, cutStart, cutEnd);
            } else if (cutStart == cutEnd) {
                target.addRange(text, starts[k], ends[k]);
            } else {
                target.addRange(text, starts[k], cutStart);
                target.addRange(text, cutEnd, ends[k]);
            }
        }

        private void addRelaxedValue(Bytes target, int k, int cutStart, int cutEnd) {
            boolean begun = false;
            boolean white = false;
            for (int i = colons[k] + 1; i < ends[k]; i++) {
                int c = text.at(i);
                if (c == 10 || i >= cutStart && i < cutEnd) {
                    continue;
                }
                if (Bytes.isWhite(c)) {
                    white = begun;
                    continue;
                }
                if (white) {
                    target.add(32);
                }
                target.add(c);
                begun = true;
                white = false;
            }
        }

        void addBody(Bytes target, boolean relaxed) {
            if (relaxed) {
                addRelaxedLines(target);
            } else {
                target.addRange(text, bodyStart, text.size);
            }
            if (target.size > 0 && target.at(target.size - 1) != 10) {
                target.add(10);
            }
            int end = target.size;
            while (end > 0 && target.at(end - 1) == 10 && (end == 1 || target.at(end - 2) == 10)) {
                end--;
            }
            target.cut(end);
            if (end == 0 && !relaxed) {
                target.add(10);
            }
        }

        private void addRelaxedLines(Bytes target) {
            boolean white = false;
            for (int i = bodyStart; i < text.size; i++) {
                int c = text.at(i);
                if (Bytes.isWhite(c)) {
                    white = true;
                    continue;
                }
                if (white && c != 10) {
                    target.add(32);
                }
                target.add(c);
                white = false;
            }
        }
    }

    /** TAGS, read from a range without its WHITE and bytes 10. */
    private static final class Tags {
        private static final int MOST = 40, NAME_MOST = 8;

        private final Bytes text;
        private final int[] starts = new int[MOST];
        private final int[] signs = new int[MOST];
        private final int[] ends = new int[MOST];
        private int count = 0;

        Tags(int room) {
            text = new Bytes(room);
        }

        boolean read(Bytes source, int from, int to) {
            text.clear();
            for (int i = from; i < to; i++) {
                int c = source.at(i);
                if (!Bytes.isWhite(c) && c != 10) {
                    text.add(c);
                }
            }
            count = 0;
            int start = 0;
            for (int i = 0; i < text.size; i++) {
                boolean parts = text.at(i) == ';';
                if (!parts && i + 1 < text.size) {
                    continue;
                }
                if (!take(start, parts ? i : i + 1)) {
                    return false;
                }
                start = i + 1;
            }
            return true;
        }

        private boolean take(int start, int end) {
            int sign = text.find('=', start, end);
            if (count == MOST || sign == end || sign - start < 1 || sign - start > NAME_MOST) {
                return false;
            }
            for (int i = start; i < sign; i++) {
                if (!Bytes.isSmall(text.at(i))) {
                    return false;
                }
            }
            if (isKnown(start, sign)) {
                return false;
            }
            starts[count] = start;
            signs[count] = sign;
            ends[count] = end;
            count++;
            return true;
        }

        private boolean isKnown(int start, int sign) {
            for (int k = 0; k < count; k++) {
                boolean same = signs[k] - starts[k] == sign - start;
                for (int i = 0; same && i < sign - start; i++) {
                    same = text.at(starts[k] + i) == text.at(start + i);
                }
                if (same) {
                    return true;
                }
            }
            return false;
        }

        private int rowOf(String name) {
            for (int k = 0; k < count; k++) {
                if (text.is(starts[k], signs[k], name)) {
                    return k;
                }
            }
            return -1;
        }

        boolean has(String name) {
            return rowOf(name) >= 0;
        }

        /** Where its value begins; for none, an empty range. */
        int startOf(String name) {
            int k = rowOf(name);
            return k < 0 ? 0 : signs[k] + 1;
        }

        int endOf(String name) {
            int k = rowOf(name);
            return k < 0 ? 0 : ends[k];
        }

        boolean is(String name, String value) {
            int k = rowOf(name);
            return k >= 0 && text.is(signs[k] + 1, ends[k], value);
        }

        boolean isOrMisses(String name, String value) {
            int k = rowOf(name);
            return k < 0 || text.is(signs[k] + 1, ends[k], value);
        }

        boolean isNameAt(String name) {
            return text.isName(startOf(name), endOf(name));
        }

        /** The number of at most nine digits that is its value; -1 if it is none. */
        int numberAt(String name) {
            int k = rowOf(name);
            return k < 0 ? -1 : Term.numberOf(text, signs[k] + 1, ends[k], 9);
        }

        boolean decode(String name, Bytes target, int wanted) {
            return target.decode(text, startOf(name), endOf(name), wanted);
        }
    }

    /** SHA-256. */
    private static final class Sha {
        private static final int[] FACTORS = {
            0x428a2f98, 0x71374491, 0xb5c0fbcf, 0xe9b5dba5, 0x3956c25b, 0x59f111f1, 0x923f82a4, 0xab1c5ed5,
            0xd807aa98, 0x12835b01, 0x243185be, 0x550c7dc3, 0x72be5d74, 0x80deb1fe, 0x9bdc06a7, 0xc19bf174,
            0xe49b69c1, 0xefbe4786, 0x0fc19dc6, 0x240ca1cc, 0x2de92c6f, 0x4a7484aa, 0x5cb0a9dc, 0x76f988da,
            0x983e5152, 0xa831c66d, 0xb00327c8, 0xbf597fc7, 0xc6e00bf3, 0xd5a79147, 0x06ca6351, 0x14292967,
            0x27b70a85, 0x2e1b2138, 0x4d2c6dfc, 0x53380d13, 0x650a7354, 0x766a0abb, 0x81c2c92e, 0x92722c85,
            0xa2bfe8a1, 0xa81a664b, 0xc24b8b70, 0xc76c51a3, 0xd192e819, 0xd6990624, 0xf40e3585, 0x106aa070,
            0x19a4c116, 0x1e376c08, 0x2748774c, 0x34b0bcb5, 0x391c0cb3, 0x4ed8aa4a, 0x5b9cca4f, 0x682e6ff3,
            0x748f82ee, 0x78a5636f, 0x84c87814, 0x8cc70208, 0x90befffa, 0xa4506ceb, 0xbef9a3f7, 0xc67178f2};
        private static final int[] BEGINNING = {
            0x6a09e667, 0xbb67ae85, 0x3c6ef372, 0xa54ff53a, 0x510e527f, 0x9b05688c, 0x1f83d9ab, 0x5be0cd19};

        private final int[] words = new int[64];
        private final int[] state = new int[8];
        private final int[] turn = new int[8];

        /** The target becomes the DIGEST of the first so many bytes. */
        void sumOf(Bytes text, int length, Bytes target) {
            System.arraycopy(BEGINNING, 0, state, 0, 8);
            int blocks = (length + 9 + 63) / 64;
            for (int block = 0; block < blocks; block++) {
                for (int i = 0; i < 16; i++) {
                    words[i] = wordAt(text, length, block * 64 + i * 4);
                }
                if (block == blocks - 1) {
                    words[15] = length * 8;
                }
                mix();
            }
            target.clear();
            for (int i = 0; i < 8; i++) {
                target.addFour(state[i]);
            }
        }

        /** Four bytes of the text, or of the byte 128 and the zeros behind it. */
        private static int wordAt(Bytes text, int length, int start) {
            int word = 0;
            for (int i = start; i < start + 4; i++) {
                int b = i < length ? text.at(i) & 255 : i == length ? 128 : 0;
                word = word << 8 | b;
            }
            return word;
        }

        private void mix() {
            for (int i = 16; i < 64; i++) {
                int a = words[i - 15];
                int b = words[i - 2];
                int low = (a >>> 7 | a << 25) ^ (a >>> 18 | a << 14) ^ a >>> 3;
                int high = (b >>> 17 | b << 15) ^ (b >>> 19 | b << 13) ^ b >>> 10;
                words[i] = words[i - 16] + low + words[i - 7] + high;
            }
            System.arraycopy(state, 0, turn, 0, 8);
            for (int i = 0; i < 64; i++) {
                step(i);
            }
            for (int i = 0; i < 8; i++) {
                state[i] += turn[i];
            }
        }

        private void step(int i) {
            int a = turn[0];
            int e = turn[4];
            int choice = e & turn[5] ^ ~e & turn[6];
            int most = a & turn[1] ^ a & turn[2] ^ turn[1] & turn[2];
            int high = (e >>> 6 | e << 26) ^ (e >>> 11 | e << 21) ^ (e >>> 25 | e << 7);
            int low = (a >>> 2 | a << 30) ^ (a >>> 13 | a << 19) ^ (a >>> 22 | a << 10);
            int first = turn[7] + high + choice + FACTORS[i] + words[i];
            for (int k = 7; k > 0; k--) {
                turn[k] = turn[k - 1];
            }
            turn[4] += first;
            turn[0] = first + low + most;
        }
    }

    /** The 65537th power by the remainder of an odd number with its highest bit 1; numbers of 512 bits. */
    private static final class Power {
        private static final int LIMBS = 16;
        private static final long MASK = 0xffffffffL;

        // Sixteen times 32 bits, the lowest first.
        private final long[] modulus = new long[LIMBS];
        private final long[] base = new long[LIMBS];
        private final long[] value = new long[LIMBS];
        private final long[] sum = new long[LIMBS + 2];
        private long factor = 0;

        void of(Bytes number, Bytes remainderOf, Bytes target) {
            load(remainderOf, modulus);
            load(number, base);
            factor = factorOf((int) modulus[0]);
            setTwo();
            // Nine squarings make 2^512 of 2, which is what brings the base into the form of Montgomery.
            for (int i = 0; i < 9; i++) {
                multiply(value, value);
            }
            multiply(value, base);
            for (int i = 0; i < 16; i++) {
                multiply(value, value);
            }
            // The plain base, not the one in that form, brings the power out of it.
            multiply(value, base);
            target.clear();
            for (int i = LIMBS - 1; i >= 0; i--) {
                target.addFour((int) value[i]);
            }
        }

        private static void load(Bytes from, long[] limbs) {
            for (int i = 0; i < LIMBS; i++) {
                long limb = 0;
                for (int k = 0; k < 4; k++) {
                    limb = limb << 8 | from.at((LIMBS - 1 - i) * 4 + k) & 255;
                }
                limbs[i] = limb;
            }
        }

        /** What makes, times the odd number, -1 in 32 bits. */
        private static long factorOf(int odd) {
            int inverse = odd;
            for (int i = 0; i < 5; i++) {
                inverse *= 2 - odd * inverse;
            }
            return -inverse & MASK;
        }

        /** The value becomes 2 in the form of Montgomery: 2 times 2^512, by the remainder. */
        private void setTwo() {
            long carry = 1;
            for (int i = 0; i < LIMBS; i++) {
                long limb = (modulus[i] ^ MASK) + carry;
                sum[i] = limb & MASK;
                carry = limb >>> 32;
            }
            carry = 0;
            for (int i = 0; i < LIMBS; i++) {
                long limb = sum[i] << 1 | carry;
                sum[i] = limb & MASK;
                carry = limb >>> 32;
            }
            sum[LIMBS] = carry;
            reduce();
        }

        /** The value becomes the one times the other, by 2^512, by the remainder. */
        private void multiply(long[] one, long[] other) {
            for (int i = 0; i < LIMBS + 2; i++) {
                sum[i] = 0;
            }
            for (int i = 0; i < LIMBS; i++) {
                addTimes(one, other[i]);
                addTimes(modulus, sum[0] * factor & MASK);
                for (int k = 0; k <= LIMBS; k++) {
                    sum[k] = sum[k + 1];
                }
                sum[LIMBS + 1] = 0;
            }
            reduce();
        }

        private void addTimes(long[] limbs, long times) {
            long carry = 0;
            for (int i = 0; i < LIMBS; i++) {
                long limb = sum[i] + limbs[i] * times + carry;
                sum[i] = limb & MASK;
                carry = limb >>> 32;
            }
            carry += sum[LIMBS];
            sum[LIMBS] = carry & MASK;
            sum[LIMBS + 1] += carry >>> 32;
        }

        /** The value becomes the sum, less than twice the modulus, by its remainder. */
        private void reduce() {
            long borrow = 0;
            for (int i = 0; i < LIMBS; i++) {
                long limb = sum[i] - modulus[i] - borrow;
                value[i] = limb & MASK;
                borrow = limb >>> 63;
            }
            if (sum[LIMBS] < borrow) {
                System.arraycopy(sum, 0, value, 0, LIMBS);
            }
        }
    }

    /** SEALED. */
    private static final class Sealer {
        private static final String FIELD = "dkim-signature";
        private static final int SUM = 32, WIDTH = 64;
        private static final int[] DIGEST_INFO = {48, 49, 48, 13, 6, 9, 96, 134, 72, 1, 101, 3, 4, 2, 1, 5, 0, 4, 32};

        private final Directory directory;
        private final Tags seal = new Tags(TAPE_ROOM);
        private final Tags key = new Tags(VALUE_ROOM);
        private final Bytes domain = new Bytes(NAME_ROOM);
        private final Bytes keyName = new Bytes(NAME_ROOM);
        private final Bytes bodySum = new Bytes(SUM);
        private final Bytes signature = new Bytes(WIDTH);
        private final Bytes modulus = new Bytes(WIDTH);
        private final Bytes sum = new Bytes(SUM);
        private final Bytes power = new Bytes(WIDTH);
        private final Bytes due = new Bytes(WIDTH);
        // Each FIELD once at most, and the SEAL's own once more.
        private final Bytes work = new Bytes(2 * TAPE_ROOM + 100);
        private final boolean[] taken = new boolean[Message.MOST];
        private final Sha sha = new Sha();
        private final Power powers = new Power();
        private boolean fieldRelaxed = false;
        private boolean bodyRelaxed = false;

        Sealer(Directory directory) {
            this.directory = directory;
        }

        int judge(Message letter, int field, int now) {
            if (!isWell(letter, field) || letter.countOf("from") == 0) {
                return NEUTRAL;
            }
            domain.clear();
            domain.addRange(seal.text, seal.startOf("d"), seal.endOf("d"));
            if (seal.has("x") && now > seal.numberAt("x")) {
                return FAIL;
            }
            int found = readKey();
            if (found != PASS) {
                return found;
            }
            if (!isBodyRight(letter)) {
                return FAIL;
            }
            work.clear();
            addListed(letter);
            addOwn(letter, field);
            return isSigned() ? PASS : FAIL;
        }

        private boolean isWell(Message letter, int field) {
            if (!seal.read(letter.text, letter.colons[field] + 1, letter.ends[field])) {
                return false;
            }
            return seal.is("v", "1") && seal.is("a", "rsa-sha256") && seal.isNameAt("d") && seal.isNameAt("s")
                    && seal.decode("bh", bodySum, SUM) && seal.decode("b", signature, WIDTH)
                    && isFieldList() && readPlainness()
                    && isNumberOrMisses("l") && isNumberOrMisses("x");
        }

        private boolean isNumberOrMisses(String name) {
            return !seal.has(name) || seal.numberAt(name) >= 0;
        }

        private boolean readPlainness() {
            fieldRelaxed = false;
            bodyRelaxed = false;
            if (!seal.has("c")) {
                return true;
            }
            int end = seal.endOf("c");
            int start = seal.startOf("c");
            int slash = seal.text.find('/', start, end);
            fieldRelaxed = seal.text.is(start, slash, "relaxed");
            bodyRelaxed = seal.text.is(slash, end, "/relaxed");
            return (fieldRelaxed || seal.text.is(start, slash, "simple"))
                    && (bodyRelaxed || slash == end || seal.text.is(slash, end, "/simple"));
        }

        private boolean isFieldList() {
            boolean from = false;
            int start = seal.startOf("h");
            int end = seal.endOf("h");
            for (int i = start; i <= end; i++) {
                if (i < end && seal.text.at(i) != ':') {
                    continue;
                }
                if (!Message.isFieldName(seal.text, start, i)) {
                    return false;
                }
                from = from || isFrom(start, i);
                start = i + 1;
            }
            return from;
        }

        private boolean isFrom(int start, int end) {
            boolean same = end - start == 4;
            for (int i = 0; same && i < 4; i++) {
                same = Bytes.smallOf(seal.text.at(start + i)) == "from".charAt(i);
            }
            return same;
        }

        /** PASS if the key is there and right; else TROUBLE or BROKEN. */
        private int readKey() {
            keyName.clear();
            keyName.addRange(seal.text, seal.startOf("s"), seal.endOf("s"));
            keyName.addText("._domainkey.");
            keyName.addRange(domain, 0, domain.size);
            if (directory.has(Directory.TROUBLES, keyName)) {
                return TROUBLE;
            }
            int row = directory.firstText(keyName);
            if (row < 0) {
                return BROKEN;
            }
            Bytes text = directory.valueAt(row);
            boolean told = key.read(text, 0, text.size) && key.decode("p", modulus, WIDTH)
                    && key.isOrMisses("v", "DKIM1") && key.isOrMisses("k", "rsa");
            return told && modulus.at(0) >= 128 && (modulus.at(WIDTH - 1) & 1) == 1 ? PASS : BROKEN;
        }

        private boolean isBodyRight(Message letter) {
            work.clear();
            letter.addBody(work, bodyRelaxed);
            int length = seal.has("l") ? seal.numberAt("l") : work.size;
            if (length > work.size) {
                return false;
            }
            sha.sumOf(work, length, sum);
            return sum.same(bodySum);
        }

        private boolean isSigned() {
            sha.sumOf(work, work.size, sum);
            writeDue();
            powers.of(signature, modulus, power);
            return power.same(due);
        }

        private void addListed(Message letter) {
            for (int k = 0; k < Message.MOST; k++) {
                taken[k] = false;
            }
            int start = seal.startOf("h");
            int end = seal.endOf("h");
            for (int i = start; i <= end; i++) {
                if (i < end && seal.text.at(i) != ':') {
                    continue;
                }
                addLast(letter, start, i);
                start = i + 1;
            }
        }

        /** The last FIELD with the name that was not taken. */
        private void addLast(Message letter, int start, int end) {
            for (int k = letter.count - 1; k >= 0; k--) {
                if (taken[k] || !letter.isNamedLike(k, seal.text, start, end)) {
                    continue;
                }
                taken[k] = true;
                letter.addFieldWithout(work, k, fieldRelaxed, 0, 0);
                work.add(10);
                return;
            }
        }

        /** The SEAL's own FIELD without b's value, which is looked for where it stands, WHITE and all. */
        private void addOwn(Message letter, int field) {
            Bytes text = letter.text;
            int end = letter.ends[field];
            int start = letter.colons[field] + 1;
            for (int i = start; i <= end; i++) {
                if (i < end && text.at(i) != ';') {
                    continue;
                }
                int sign = text.find('=', start, i);
                if (isLetterB(text, start, sign)) {
                    letter.addFieldWithout(work, field, fieldRelaxed, sign + 1, i);
                    return;
                }
                start = i + 1;
            }
        }

        private static boolean isLetterB(Bytes text, int start, int end) {
            int letters = 0;
            boolean right = true;
            for (int i = start; i < end; i++) {
                int c = text.at(i);
                if (Bytes.isWhite(c) || c == 10) {
                    continue;
                }
                letters++;
                right = right && c == 'b';
            }
            return right && letters == 1;
        }

        private void writeDue() {
            due.clear();
            due.add(0);
            due.add(1);
            for (int i = 0; i < 10; i++) {
                due.add(255);
            }
            due.add(0);
            for (int i = 0; i < DIGEST_INFO.length; i++) {
                due.add(DIGEST_INFO[i]);
            }
            due.addRange(sum, 0, sum.size);
        }
    }

    /** What the domain that is seen wants. */
    private static final class Policy {
        private static final int OPEN = -1;
        private static final String START = "v=DMARC1";

        private final Directory directory;
        private final Bytes domain = new Bytes(NAME_ROOM);
        private final Bytes place = new Bytes(NAME_ROOM);
        private final Tags record = new Tags(VALUE_ROOM);
        private int wanted = 0;
        private boolean strictSender = false;
        private boolean strictSeal = false;

        Policy(Directory directory) {
            this.directory = directory;
        }

        /** OPEN if what is wanted is known, and only PERMISSION and SEALS are left to be asked; else the WISH. */
        int read(Message letter) {
            if (letter.countOf("from") != 1 || !readDomain(letter, letter.fieldOf("from", 0))) {
                return NEUTRAL;
            }
            setPlace(0);
            if (directory.has(Directory.TROUBLES, place)) {
                return TROUBLE;
            }
            int row = directory.onlyText(place, START, false);
            boolean own = row >= 0;
            if (!own) {
                setPlace(directory.houseStart(domain));
                if (directory.has(Directory.TROUBLES, place)) {
                    return TROUBLE;
                }
                row = directory.onlyText(place, START, false);
            }
            return row < 0 ? NOTHING : readRecord(directory.valueAt(row), own);
        }

        private boolean readDomain(Message letter, int field) {
            int end = letter.ends[field];
            int sign = letter.text.findLast('@', letter.colons[field] + 1, end);
            domain.clear();
            if (letter.text.at(sign) != '@') {
                return false;
            }
            for (int i = sign + 1; i < end; i++) {
                int c = letter.text.at(i);
                if (Bytes.isWhite(c) || c == '>' || c == 10) {
                    break;
                }
                domain.add(Bytes.smallOf(c));
            }
            return domain.isName(0, domain.size);
        }

        private void setPlace(int start) {
            place.clear();
            place.addText("_dmarc.");
            place.addRange(domain, start, domain.size);
        }

        private int readRecord(Bytes text, boolean own) {
            if (!record.read(text, 0, text.size)) {
                return BROKEN;
            }
            wanted = wantOf("p");
            if (wanted != BROKEN && !own && record.has("sp")) {
                wanted = wantOf("sp");
            }
            strictSender = record.is("aspf", "s");
            strictSeal = record.is("adkim", "s");
            return wanted == BROKEN ? BROKEN : OPEN;
        }

        private int wantOf(String name) {
            if (record.is(name, "none")) {
                return 7;
            }
            if (record.is(name, "quarantine")) {
                return 8;
            }
            return record.is(name, "reject") ? 9 : BROKEN;
        }

        boolean isAligned(Bytes other, boolean strict) {
            return strict ? other.same(domain) : directory.isSameHouse(other, domain);
        }
    }
}
