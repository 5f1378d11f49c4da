/** Rules of boards, read from sentences of words, weighed against one another and printed. */
public final class RuleText {
    /** There is none. */
    public static final int NONE = -1;

    private static final int TEXT_LIMIT = 3000;
    private static final int RULE_LIMIT = 60;
    private static final int NAME_LIMIT = 8;
    private static final int THINGS = 16;
    private static final int THING_KINDS = 3;
    private static final int CLASS = 0;
    private static final int NET = 1;
    private static final int AREA = 2;

    private static final int TOP = 1;
    private static final int BOTTOM = 2;
    private static final int INNER = 3;
    private static final int LAYER_LIMIT = 32;
    private static final int RULE_PARTS = 8;
    private static final int WRONG = -2;

    private static final int WHOLE_DIGITS = 9;
    private static final int PLACES = 6;
    private static final long MILLION = 1_000_000L;
    private static final long LENGTH_LIMIT = 1_000_000_000_000L;
    private static final long COUNT_LIMIT = 1_000_000L;

    private static final Kind[] KINDS = Kind.values();
    private static final Unit[] UNITS = Unit.values();

    private final Names names = new Names();
    private final Shapes shapes = new Shapes();
    private final Words words = new Words();
    private final Reader reader = new Reader(words, names);
    private final Writer writer = new Writer(names);

    private RuleList rules = new RuleList();
    // A text with a wrong word leaves all rules as they were, so it is read into this list.
    private RuleList spare = new RuleList();
    // The rules written out are kept, as they are asked for by one character a call.
    private boolean writtenIsOld = true;

    /** No text, no names, no shapes, no rules. */
    public RuleText() {
    }

    /** One more character of the text; false when it is refused. */
    public boolean unit(int u) {
        return words.append(u);
    }

    /** One more letter of a thing's name; false when it is refused. */
    public boolean name(int kind, int thing, int u) throws IndexOutOfBoundsException {
        if (kind < 0 || kind >= THING_KINDS || thing < 0 || thing >= THINGS) {
            throw new IndexOutOfBoundsException("no such kind or thing");
        }
        if (!names.append(slotOf(kind, thing), u)) {
            return false;
        }
        writtenIsOld = true;
        return true;
    }

    /** Reads the text: how many rules it has, or -1 minus the number of its first wrong word. */
    public int read() {
        int answer = reader.readRules(spare);
        if (answer >= 0) {
            RuleList old = rules;
            rules = spare;
            spare = old;
            writtenIsOld = true;
        }
        return answer;
    }

    /** One part of a rule: kind, things, layer, area or rank. */
    public int rule(int k, int what) throws IndexOutOfBoundsException {
        if (!rules.has(k) || what < 0 || what >= RULE_PARTS) {
            throw new IndexOutOfBoundsException("no such rule or part");
        }
        Rule asked = rules.items[k];
        switch (what) {
            case 0: return asked.kind.number;
            case 1: return kindOf(asked.first);
            case 2: return thingOf(asked.first);
            case 3: return kindOf(asked.second);
            case 4: return thingOf(asked.second);
            case 5: return asked.layer;
            case 6: return asked.area;
            default: return asked.rank;
        }
    }

    /** The low (0) or high (1) end of a rule's value. */
    public long value(int rule, int end) throws IndexOutOfBoundsException {
        if (!rules.has(rule) || end < 0 || end > 1) {
            throw new IndexOutOfBoundsException("no such rule or end");
        }
        return end == 0 ? rules.items[rule].low : rules.items[rule].high;
    }

    /** How many rules stand ahead of one. */
    public int rank(int rule) throws IndexOutOfBoundsException {
        if (!rules.has(rule)) {
            throw new IndexOutOfBoundsException("no such rule");
        }
        return rules.countAhead(rule);
    }

    /** Tells an area's shape; false when the rectangle would be turned. */
    public boolean shape(int name, long x0, long y0, long x1, long y1) throws IndexOutOfBoundsException {
        if (name < 0 || name >= THINGS) {
            throw new IndexOutOfBoundsException("no such area");
        }
        return shapes.tell(name, x0, y0, x1, y1);
    }

    /** The k-th rule that can never win. */
    public int never(int k) {
        int before = 0;
        for (int i = 0; i < rules.count; i++) {
            if (rules.isBeaten(i, shapes)) {
                if (before == k) {
                    return i;
                }
                before++;
            }
        }
        return NONE;
    }

    /** The lower (0) or the other (1) of the k-th two rules that clash. */
    public int clash(int k, int which) throws IndexOutOfBoundsException {
        if (which < 0 || which > 1) {
            throw new IndexOutOfBoundsException("no such one of two");
        }
        int before = 0;
        for (int low = 0; low < rules.count; low++) {
            for (int high = low + 1; high < rules.count; high++) {
                if (rules.areAtOdds(low, high, shapes)) {
                    if (before == k) {
                        return which == 0 ? low : high;
                    }
                    before++;
                }
            }
        }
        return NONE;
    }

    /** In which line of the text a rule's first word stood. */
    public int line(int rule) throws IndexOutOfBoundsException {
        if (!rules.has(rule)) {
            throw new IndexOutOfBoundsException("no such rule");
        }
        return rules.items[rule].line;
    }

    /** Of how many kinds there are rules. */
    public int kinds() {
        int seen = 0;
        for (int i = 0; i < rules.count; i++) {
            seen |= 1 << rules.items[i].kind.number;
        }
        return Integer.bitCount(seen);
    }

    /** The i-th character of all rules written. */
    public int write(int i) throws IndexOutOfBoundsException {
        if (i < 0) {
            throw new IndexOutOfBoundsException("no character ahead of the first");
        }
        if (writtenIsOld) {
            writer.writeRules(rules);
            writtenIsOld = false;
        }
        return i < writer.out.length() ? writer.out.charAt(i) : NONE;
    }

    /** There is no text. */
    public void clear() {
        words.length = 0;
    }

    /** Things of all kinds stand in one row: a thing's place there tells its kind and number at once. */
    private static int slotOf(int kind, int thing) {
        return kind * THINGS + thing;
    }

    private static int kindOf(int slot) {
        return slot == NONE ? NONE : slot / THINGS;
    }

    private static int thingOf(int slot) {
        return slot == NONE ? NONE : slot % THINGS;
    }

    private static boolean isLetterOrDigit(int u) {
        return u >= 'a' && u <= 'z' || u >= '0' && u <= '9';
    }

    private enum Kind {
        GAP(0, "gap", false),
        WIDTH(1, "width", false),
        VIA(2, "via", false),
        LENGTH(3, "length", false),
        SKEW(4, "skew", false),
        TURNS(5, "turns", true),
        HEIGHT(6, "height", false),
        MASK(7, "mask", false),
        SILK(8, "silk", false),
        TEST(9, "test", true),
        PLANE(10, "plane", false),
        RING(11, "ring", false),
        WAIVER(12, "waive", false);

        final int number;
        final String word;
        /** Its values are bare counts, without a unit. */
        final boolean counted;

        Kind(int number, String word, boolean counted) {
            this.number = number;
            this.word = word;
            this.counted = counted;
        }
    }

    private enum Unit {
        NM("nm", 1L),
        UM("um", 1_000L),
        MM("mm", 1_000_000L),
        MIL("mil", 25_400L),
        INCH("inch", 25_400_000L);

        final String word;
        final long nm;

        Unit(String word, long nm) {
            this.word = word;
            this.nm = nm;
        }
    }

    private static final class Rule {
        Kind kind = Kind.GAP;
        /** The slots of its things; NONE is any, and stands for a second one that is not there, too. */
        int first;
        int second;
        int layer;
        int area;
        int rank;
        /** The ends of its value; NONE where there is no such end. */
        long low;
        long high;
        int line;

        void begin(Kind newKind, int newLine) {
            kind = newKind;
            first = NONE;
            second = NONE;
            layer = 0;
            area = NONE;
            rank = 0;
            low = NONE;
            high = NONE;
            line = newLine;
        }

        boolean isWaiver() {
            return kind == Kind.WAIVER;
        }

        boolean isOfTwoThings() {
            return kind == Kind.GAP || kind == Kind.WAIVER;
        }

        boolean covers(Rule other, Shapes shapes) {
            return coversKind(other) && coversThings(other) && coversLayer(other) && coversArea(other, shapes);
        }

        private boolean coversKind(Rule other) {
            return kind == other.kind || isWaiver() && other.kind == Kind.GAP;
        }

        // A rule of one thing has any for its second, so the turned way adds nothing there.
        private boolean coversThings(Rule other) {
            return coversThing(first, other.first) && coversThing(second, other.second)
                || coversThing(first, other.second) && coversThing(second, other.first);
        }

        private static boolean coversThing(int mine, int others) {
            return mine == NONE || mine == others;
        }

        private boolean coversLayer(Rule other) {
            return layer == 0 || layer == other.layer;
        }

        private boolean coversArea(Rule other, Shapes shapes) {
            if (area == NONE || area == other.area) {
                return true;
            }
            return other.area != NONE && shapes.holds(area, other.area);
        }

        boolean sharesValueWith(Rule other) {
            return reachesUpTo(other) && other.reachesUpTo(this);
        }

        private boolean reachesUpTo(Rule other) {
            return high == NONE || other.low == NONE || high >= other.low;
        }
    }

    private static final class RuleList {
        final Rule[] items = new Rule[RULE_LIMIT];
        int count;

        RuleList() {
            for (int i = 0; i < RULE_LIMIT; i++) {
                items[i] = new Rule();
            }
        }

        boolean has(int k) {
            return k >= 0 && k < count;
        }

        int countAhead(int k) {
            int ahead = 0;
            for (int i = 0; i < count; i++) {
                if (isAhead(i, k)) {
                    ahead++;
                }
            }
            return ahead;
        }

        private boolean isAhead(int i, int k) {
            Rule one = items[i];
            Rule other = items[k];
            if (one.isWaiver() != other.isWaiver()) {
                return one.isWaiver();
            }
            return one.rank == other.rank ? i > k : one.rank > other.rank;
        }

        boolean isBeaten(int k, Shapes shapes) {
            for (int i = 0; i < count; i++) {
                if (isAhead(i, k) && items[i].covers(items[k], shapes)) {
                    return true;
                }
            }
            return false;
        }

        boolean areAtOdds(int i, int k, Shapes shapes) {
            Rule one = items[i];
            Rule other = items[k];
            if (one.isWaiver() || other.isWaiver() || one.sharesValueWith(other)) {
                return false;
            }
            return one.covers(other, shapes) && other.covers(one, shapes);
        }
    }

    private static final class Names {
        final char[] letters = new char[THING_KINDS * THINGS * NAME_LIMIT];
        final int[] lengths = new int[THING_KINDS * THINGS];

        boolean append(int slot, int u) {
            if (!isLetterOrDigit(u) || lengths[slot] >= NAME_LIMIT) {
                return false;
            }
            letters[slot * NAME_LIMIT + lengths[slot]] = (char) u;
            lengths[slot]++;
            return true;
        }

        /** The lowest thing of a kind with the word as its name, or NONE. */
        int find(int kind, Words words) {
            // The empty word behind the text must not meet the things that have no name.
            if (words.atEnd()) {
                return NONE;
            }
            for (int thing = 0; thing < THINGS; thing++) {
                if (isNamed(slotOf(kind, thing), words)) {
                    return thing;
                }
            }
            return NONE;
        }

        private boolean isNamed(int slot, Words words) {
            int length = lengths[slot];
            if (length != words.end - words.start) {
                return false;
            }
            for (int i = 0; i < length; i++) {
                if (letters[slot * NAME_LIMIT + i] != words.letters[words.start + i]) {
                    return false;
                }
            }
            return true;
        }
    }

    private static final class Shapes {
        private final boolean[] told = new boolean[THINGS];
        private final long[] left = new long[THINGS];
        private final long[] below = new long[THINGS];
        private final long[] right = new long[THINGS];
        private final long[] above = new long[THINGS];

        boolean tell(int area, long x0, long y0, long x1, long y1) {
            if (x0 > x1 || y0 > y1) {
                return false;
            }
            told[area] = true;
            left[area] = x0;
            below[area] = y0;
            right[area] = x1;
            above[area] = y1;
            return true;
        }

        boolean holds(int outer, int inner) {
            return told[outer] && told[inner]
                && left[outer] <= left[inner] && right[inner] <= right[outer]
                && below[outer] <= below[inner] && above[inner] <= above[outer];
        }
    }

    /**
     * The text and one word of it. Behind the last word stands an empty one, which is like no other,
     * so that a sentence that breaks off there has its wrong word, too.
     */
    private static final class Words {
        final char[] letters = new char[TEXT_LIMIT];
        int length;
        int start;
        int end;
        int number;
        int line;

        boolean append(int u) {
            boolean known = u == ' ' || u == '\n' || u == ';' || u == '.' || isLetterOrDigit(u);
            if (!known || length >= TEXT_LIMIT) {
                return false;
            }
            letters[length] = (char) u;
            length++;
            return true;
        }

        void goToFirst() {
            end = 0;
            number = NONE;
            line = 0;
            goOn();
        }

        /** To the next word; the text holds nothing but blanks, ; and parts of words. */
        void goOn() {
            int at = end;
            while (at < length && letters[at] <= ' ') {
                if (letters[at] == '\n') {
                    line++;
                }
                at++;
            }
            start = at;
            if (at < length && letters[at] == ';') {
                at++;
            } else {
                while (at < length && letters[at] > ' ' && letters[at] != ';') {
                    at++;
                }
            }
            end = at;
            number++;
        }

        boolean atEnd() {
            return start == end;
        }

        boolean is(String word) {
            if (word.length() != end - start) {
                return false;
            }
            for (int i = 0; i < word.length(); i++) {
                if (word.charAt(i) != letters[start + i]) {
                    return false;
                }
            }
            return true;
        }

        /** Where the digits end that the word has from a place on. */
        int endOfDigits(int from) {
            int at = from;
            while (at < end && letters[at] >= '0' && letters[at] <= '9') {
                at++;
            }
            return at;
        }

        /** The number that at most nine digits make. */
        int digitsAsNumber(int from, int to) {
            int made = 0;
            for (int at = from; at < to; at++) {
                made = made * 10 + (letters[at] - '0');
            }
            return made;
        }
    }

    /** A number of a value, kept in two parts as it was told until its unit is known. */
    private static final class Amount {
        int word;
        long whole;
        long millionths;
        long worth;

        /** Takes the word; false when it is no number. */
        boolean take(Words words) {
            word = words.number;
            int point = words.endOfDigits(words.start);
            int digits = point - words.start;
            if (digits < 1 || digits > WHOLE_DIGITS) {
                return false;
            }
            whole = words.digitsAsNumber(words.start, point);
            millionths = 0;
            if (point == words.end) {
                return true;
            }
            int from = point + 1;
            int to = words.endOfDigits(from);
            int places = to - from;
            if (words.letters[point] != '.' || to != words.end || places < 1 || places > PLACES) {
                return false;
            }
            millionths = words.digitsAsNumber(from, to);
            for (int i = places; i < PLACES; i++) {
                millionths *= 10;
            }
            return true;
        }

        /** Converts to nm, or to a count; false when that is not whole or above the limit. */
        boolean convert(long unit, long limit) {
            long parts = millionths * unit;
            worth = whole * unit + parts / MILLION;
            return parts % MILLION == 0 && worth <= limit;
        }
    }

    /** Reads rules out of words; a method that answers false stands at the wrong word, or has noted it. */
    private static final class Reader {
        private final Words words;
        private final Names names;
        private final Amount low = new Amount();
        private final Amount high = new Amount();
        // An amount is found wrong only when its unit has come: then its word is already passed.
        private int passedWrong;

        Reader(Words words, Names names) {
            this.words = words;
            this.names = names;
        }

        int readRules(RuleList into) {
            passedWrong = NONE;
            words.goToFirst();
            for (into.count = 0; into.count < RULE_LIMIT; into.count++) {
                if (words.atEnd()) {
                    return into.count;
                }
                if (!readSentence(into.items[into.count])) {
                    return -1 - (passedWrong == NONE ? words.number : passedWrong);
                }
            }
            return words.atEnd() ? into.count : -1 - words.number;
        }

        private boolean readSentence(Rule rule) {
            Kind kind = findKind();
            if (kind == null) {
                return false;
            }
            rule.begin(kind, words.line);
            words.goOn();
            if (!readScope(rule)) {
                return false;
            }
            boolean whole = rule.isWaiver()
                || readLayer(rule) && readArea(rule) && readRank(rule) && readSpan(rule);
            return whole && accept(";");
        }

        private Kind findKind() {
            for (int i = 0; i < KINDS.length; i++) {
                if (words.is(KINDS[i].word)) {
                    return KINDS[i];
                }
            }
            return null;
        }

        private boolean accept(String word) {
            if (!words.is(word)) {
                return false;
            }
            words.goOn();
            return true;
        }

        private boolean readScope(Rule rule) {
            if (!rule.isWaiver() && !accept(rule.isOfTwoThings() ? "between" : "of")) {
                return true;
            }
            rule.first = readThing();
            if (rule.first == WRONG || !rule.isOfTwoThings()) {
                return rule.first != WRONG;
            }
            if (!accept("and")) {
                return false;
            }
            rule.second = readThing();
            return rule.second != WRONG;
        }

        /** The slot of a thing, NONE for any, or WRONG. */
        private int readThing() {
            if (accept("any")) {
                return NONE;
            }
            int kind = accept("class") ? CLASS : accept("net") ? NET : WRONG;
            if (kind == WRONG) {
                return WRONG;
            }
            int thing = names.find(kind, words);
            if (thing == NONE) {
                return WRONG;
            }
            words.goOn();
            return slotOf(kind, thing);
        }

        private boolean readLayer(Rule rule) {
            if (!accept("on")) {
                return true;
            }
            if (accept("layer")) {
                int n = shortNumber();
                if (n < 1 || n > LAYER_LIMIT) {
                    return false;
                }
                rule.layer = INNER + n;
                words.goOn();
                return true;
            }
            rule.layer = accept("top") ? TOP : accept("bottom") ? BOTTOM : accept("inner") ? INNER : NONE;
            return rule.layer != NONE;
        }

        private boolean readArea(Rule rule) {
            if (!accept("in")) {
                return true;
            }
            rule.area = names.find(AREA, words);
            if (rule.area == NONE) {
                return false;
            }
            words.goOn();
            return true;
        }

        private boolean readRank(Rule rule) {
            if (!accept("rank")) {
                return true;
            }
            rule.rank = shortNumber();
            if (rule.rank == NONE) {
                return false;
            }
            words.goOn();
            return true;
        }

        /** The number of a word of one or two digits, or NONE when it is none such. */
        private int shortNumber() {
            int digits = words.end - words.start;
            if (digits < 1 || digits > 2 || words.endOfDigits(words.start) != words.end) {
                return NONE;
            }
            return words.digitsAsNumber(words.start, words.end);
        }

        private boolean readSpan(Rule rule) {
            boolean counted = rule.kind.counted;
            boolean least = accept("least");
            boolean most = !least && accept("most");
            if (!readAmount(low, counted)) {
                return false;
            }
            boolean two = !least && !most && accept("to");
            if (two && !readAmount(high, counted)) {
                return false;
            }
            if (!counted && !readUnit(two)) {
                return false;
            }
            if (two && high.worth < low.worth) {
                return blame(high);
            }
            rule.low = most ? NONE : low.worth;
            rule.high = least ? NONE : two ? high.worth : low.worth;
            return true;
        }

        private boolean readAmount(Amount amount, boolean counted) {
            if (!amount.take(words)) {
                return false;
            }
            if (counted && !amount.convert(1, COUNT_LIMIT)) {
                return blame(amount);
            }
            words.goOn();
            return true;
        }

        private boolean readUnit(boolean two) {
            Unit unit = findUnit();
            if (unit == null) {
                return false;
            }
            if (!low.convert(unit.nm, LENGTH_LIMIT)) {
                return blame(low);
            }
            if (two && !high.convert(unit.nm, LENGTH_LIMIT)) {
                return blame(high);
            }
            words.goOn();
            return true;
        }

        private Unit findUnit() {
            for (int i = 0; i < UNITS.length; i++) {
                if (words.is(UNITS[i].word)) {
                    return UNITS[i];
                }
            }
            return null;
        }

        private boolean blame(Amount amount) {
            passedWrong = amount.word;
            return false;
        }
    }

    private static final class Writer {
        final StringBuilder out = new StringBuilder();
        private final Names names;

        Writer(Names names) {
            this.names = names;
        }

        void writeRules(RuleList rules) {
            out.setLength(0);
            for (int i = 0; i < rules.count; i++) {
                writeSentence(rules.items[i]);
            }
        }

        private void writeSentence(Rule rule) {
            out.append(rule.kind.word);
            writeScope(rule);
            if (!rule.isWaiver()) {
                writeLayer(rule.layer);
                writeArea(rule.area);
                writeRank(rule.rank);
                writeSpan(rule);
            }
            out.append(" ;\n");
        }

        private void writeScope(Rule rule) {
            if (!rule.isWaiver()) {
                out.append(rule.isOfTwoThings() ? " between" : " of");
            }
            writeThing(rule.first);
            if (rule.isOfTwoThings()) {
                out.append(" and");
                writeThing(rule.second);
            }
        }

        private void writeThing(int slot) {
            if (slot == NONE) {
                out.append(" any");
                return;
            }
            out.append(kindOf(slot) == CLASS ? " class" : " net");
            writeName(slot);
        }

        private void writeName(int slot) {
            out.append(' ');
            for (int i = 0; i < names.lengths[slot]; i++) {
                out.append(names.letters[slot * NAME_LIMIT + i]);
            }
        }

        private void writeLayer(int layer) {
            if (layer == TOP) {
                out.append(" on top");
            } else if (layer == BOTTOM) {
                out.append(" on bottom");
            } else if (layer == INNER) {
                out.append(" on inner");
            } else if (layer > INNER) {
                out.append(" on layer ").append(layer - INNER);
            }
        }

        private void writeArea(int area) {
            if (area != NONE) {
                out.append(" in");
                writeName(slotOf(AREA, area));
            }
        }

        private void writeRank(int rank) {
            if (rank != 0) {
                out.append(" rank ").append(rank);
            }
        }

        private void writeSpan(Rule rule) {
            if (rule.high == NONE) {
                out.append(" least");
            } else if (rule.low == NONE) {
                out.append(" most");
            }
            writeNumber(rule.low == NONE ? rule.high : rule.low);
            if (rule.low != NONE && rule.high != NONE && rule.low != rule.high) {
                out.append(" to");
                writeNumber(rule.high);
            }
            if (!rule.kind.counted) {
                out.append(" nm");
            }
        }

        // No number goes above the highest length, so its power of ten is the first that can count.
        private void writeNumber(long number) {
            out.append(' ');
            for (long power = LENGTH_LIMIT; power >= 1; power /= 10) {
                if (number >= power || power == 1) {
                    out.append((char) ('0' + number / power % 10));
                }
            }
        }
    }
}
