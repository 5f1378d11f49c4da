import java.math.BigDecimal;
import java.util.ArrayList;
import java.util.List;
import java.util.Random;
import java.util.regex.Matcher;
import java.util.regex.Pattern;

/** Runs of calls by chance (always the same ones) against a second telling of the document, in other means. */
public final class RandomRunsTest {
    private static final String[] KINDS = {"gap", "width", "via", "length", "skew", "turns", "height", "mask",
        "silk", "test", "plane", "ring", "waive"};
    private static final String[] NAMES = {"a", "b", "c", "ab", "any", "5", "and", "abcdefgh"};
    private static final Random CHANCE = new Random(20261115L);

    public static void main(String[] args) {
        for (int run = 0; run < 4_000; run++) {
            oneRun(run);
        }
        Check.end();
    }

    private static void oneRun(int run) {
        RuleText x = new RuleText();
        Model m = new Model();
        for (int i = 0; i < 14; i++) {
            nameOne(x, m);
        }
        for (int i = 0; i < 4; i++) {
            shapeOne(x, m);
        }
        for (int round = 0; round < 3; round++) {
            x.clear();
            m.text = "";
            String text = text(CHANCE.nextInt(5));
            for (char u : text.toCharArray()) {
                x.unit(u);
            }
            m.text = text;
            Check.same("run " + run + " read() of [" + text + "]", x.read(), m.read());
            compare("run " + run + " [" + text + "] ", x, m);
            nameOne(x, m);
            shapeOne(x, m);
            compare("run " + run + " [" + text + "] later ", x, m);
        }
    }

    private static void nameOne(RuleText x, Model m) {
        int kind = CHANCE.nextInt(3);
        int thing = CHANCE.nextInt(6);
        String name = NAMES[CHANCE.nextInt(NAMES.length)];
        for (char u : name.toCharArray()) {
            boolean fine = m.names[kind][thing].length() < 8;
            Check.same("name()", x.name(kind, thing, u) ? 1 : 0, fine ? 1 : 0);
            m.names[kind][thing] += fine ? "" + u : "";
        }
    }

    private static void shapeOne(RuleText x, Model m) {
        int area = CHANCE.nextInt(6);
        long[] s = {CHANCE.nextInt(3), CHANCE.nextInt(3), CHANCE.nextInt(4), CHANCE.nextInt(4)};
        boolean fine = s[0] <= s[2] && s[1] <= s[3];
        Check.same("shape()", x.shape(area, s[0], s[1], s[2], s[3]) ? 1 : 0, fine ? 1 : 0);
        if (fine) {
            m.shapes[area] = s;
        }
    }

    private static String one(String... of) {
        return of[CHANCE.nextInt(of.length)];
    }

    private static String thing() {
        return one("any", "any", "class " + one(NAMES), "net " + one(NAMES));
    }

    private static String number(boolean counted) {
        if (counted) {
            return one("1", "2", "3", "4.0", "1.5", "1000000", "1000001");
        }
        return one("1", "2", "3", "0", "7.5", "0.005", "0.000001", "999999999", "1000000", "1234567890", "2.50");
    }

    private static String sentence() {
        String kind = KINDS[one("gap", "via", "turns", "waive", "x").equals("x") ? CHANCE.nextInt(13)
            : new int[] {0, 0, 2, 5, 12}[CHANCE.nextInt(5)]];
        if (kind.equals("waive")) {
            return kind + " " + thing() + " and " + thing() + " ;";
        }
        boolean counted = kind.equals("turns") || kind.equals("test");
        StringBuilder s = new StringBuilder(kind);
        if (CHANCE.nextInt(3) > 0) {
            s.append(kind.equals("gap") ? " between " + thing() + " and " + thing() : " of " + thing());
        }
        if (CHANCE.nextInt(3) == 0) {
            s.append(" on ").append(one("top", "top", "bottom", "inner", "layer 3", "layer 03", "layer 33"));
        }
        if (CHANCE.nextInt(3) == 0) {
            s.append(" in ").append(one(NAMES));
        }
        if (CHANCE.nextInt(3) == 0) {
            s.append(" rank ").append(one("1", "0", "99", "01", "100"));
        }
        s.append(one(" ", " ", " least ", " most ")).append(number(counted));
        if (CHANCE.nextInt(3) == 0) {
            s.append(" to ").append(number(counted));
        }
        if (!counted) {
            s.append(' ').append(one("nm", "um", "mm", "mil", "inch"));
        }
        return s + " ;";
    }

    private static String text(int count) {
        StringBuilder s = new StringBuilder();
        for (int i = 0; i < count; i++) {
            s.append(sentence()).append(one("\n", " ", "", "\n\n "));
        }
        String all = s.toString();
        int at = all.isEmpty() ? 0 : CHANCE.nextInt(all.length());
        switch (CHANCE.nextInt(12)) {
            case 0: return all.substring(0, at);
            case 1: return all.substring(0, at) + one(" any ", " to ", ";", "5", " ", ".", " and ", "\n") + all.substring(at);
            case 2: return all.replaceFirst(" [a-z0-9.]+ ", " ");
            default: return all;
        }
    }

    private static void compare(String where, RuleText x, Model m) {
        int count = m.rules.size();
        Check.same(where + "written", Check.written(x), m.written());
        Check.outOfBounds(where + "rule(count)", () -> x.rule(count, 0));
        List<Integer> never = new ArrayList<>();
        List<int[]> clashes = new ArrayList<>();
        java.util.Set<Integer> kinds = new java.util.HashSet<>();
        for (int i = 0; i < count; i++) {
            Model.Said r = m.rules.get(i);
            kinds.add(r.kind);
            int[] parts = {r.kind, r.thingKind[0], r.thing[0], r.thingKind[1], r.thing[1], r.layer, r.area, r.rank};
            for (int what = 0; what < 8; what++) {
                Check.same(where + "rule(" + i + ", " + what + ")", x.rule(i, what), parts[what]);
            }
            Check.same(where + "value(" + i + ", 0)", x.value(i, 0), r.low);
            Check.same(where + "value(" + i + ", 1)", x.value(i, 1), r.high);
            Check.same(where + "line(" + i + ")", x.line(i), r.line);
            int ahead = 0;
            boolean beaten = false;
            for (int k = 0; k < count; k++) {
                Model.Said o = m.rules.get(k);
                if (Model.key(o, k) > Model.key(r, i)) {
                    ahead++;
                    beaten |= m.covers(o, r);
                }
                if (k > i && r.kind < 12 && m.covers(o, r) && m.covers(r, o) && Model.apart(o, r)) {
                    clashes.add(new int[] {i, k});
                }
            }
            Check.same(where + "rank(" + i + ")", x.rank(i), ahead);
            if (beaten) {
                never.add(i);
            }
        }
        Check.same(where + "kinds()", x.kinds(), kinds.size());
        for (int k = 0; k <= never.size(); k++) {
            Check.same(where + "never(" + k + ")", x.never(k), k < never.size() ? never.get(k) : -1);
        }
        for (int k = 0; k <= clashes.size(); k++) {
            for (int which = 0; which < 2; which++) {
                Check.same(where + "clash(" + k + ", " + which + ")", x.clash(k, which),
                    k < clashes.size() ? clashes.get(k)[which] : -1);
            }
        }
    }

    /** The document once more: words by patterns, numbers by BigDecimal, wrong words by an exception. */
    private static final class Model {
        static final class Said {
            int kind;
            int[] thingKind = {-1, -1};
            int[] thing = {-1, -1};
            int layer;
            int area = -1;
            int rank;
            long low = -1;
            long high = -1;
            int line;
        }

        static final class Wrong extends RuntimeException {
            private static final long serialVersionUID = 1L;
            final int word;

            Wrong(int word) {
                this.word = word;
            }
        }

        final String[][] names = new String[3][16];
        final long[][] shapes = new long[16][];
        String text = "";
        List<Said> rules = new ArrayList<>();
        private final List<String> words = new ArrayList<>();
        private final List<Integer> lines = new ArrayList<>();
        private int at;

        Model() {
            for (String[] row : names) {
                java.util.Arrays.fill(row, "");
            }
        }

        int read() {
            words.clear();
            lines.clear();
            at = 0;
            Matcher found = Pattern.compile(";|[a-z0-9.]+").matcher(text);
            while (found.find()) {
                words.add(found.group());
                lines.add((int) text.substring(0, found.start()).chars().filter(u -> u == 10).count());
            }
            List<Said> made = new ArrayList<>();
            try {
                while (at < words.size()) {
                    made.add(sentence());
                }
            } catch (Wrong w) {
                return -1 - w.word;
            }
            rules = made;
            return made.size();
        }

        private String next(String pattern) {
            if (at < words.size() && words.get(at).matches(pattern)) {
                return words.get(at++);
            }
            throw new Wrong(at);
        }

        private boolean sees(String word) {
            boolean there = at < words.size() && words.get(at).equals(word);
            at += there ? 1 : 0;
            return there;
        }

        private Said sentence() {
            Said s = new Said();
            s.line = lines.get(at);
            s.kind = List.of(KINDS).indexOf(next(String.join("|", KINDS)));
            if (s.kind == 12 || s.kind == 0 && sees("between")) {
                thing(s, 0);
                next("and");
                thing(s, 1);
            } else if (s.kind != 0 && sees("of")) {
                thing(s, 0);
            }
            if (s.kind != 12) {
                place(s);
                span(s);
            }
            next(";");
            return s;
        }

        private void thing(Said s, int i) {
            if (sees("any")) {
                return;
            }
            s.thingKind[i] = next("class|net").equals("class") ? 0 : 1;
            s.thing[i] = named(s.thingKind[i]);
        }

        private int named(int kind) {
            for (int i = 0; i < 16 && at < words.size(); i++) {
                if (names[kind][i].equals(words.get(at))) {
                    at++;
                    return i;
                }
            }
            throw new Wrong(at);
        }

        private void place(Said s) {
            if (sees("on")) {
                String layer = next("top|bottom|inner|layer");
                s.layer = List.of("", "top", "bottom", "inner").indexOf(layer);
                if (s.layer < 0) {
                    s.layer = 3 + Integer.parseInt(next("0?[1-9]|[12][0-9]|3[012]"));
                }
            }
            if (sees("in")) {
                s.area = named(2);
            }
            if (sees("rank")) {
                s.rank = Integer.parseInt(next("[0-9]{1,2}"));
            }
        }

        private void span(Said s) {
            boolean counted = s.kind == 5 || s.kind == 9;
            boolean least = sees("least");
            boolean most = !least && sees("most");
            List<Integer> places = new ArrayList<>();
            List<BigDecimal> told = new ArrayList<>();
            do {
                places.add(at);
                told.add(new BigDecimal(next("[0-9]{1,9}([.][0-9]{1,6})?")));
                if (counted) {
                    whole(told.get(told.size() - 1), 1_000_000L, at - 1);
                }
            } while (!least && !most && told.size() < 2 && sees("to"));
            long unit = 1;
            if (!counted) {
                String word = next("nm|um|mm|mil|inch");
                unit = List.of(1L, 1_000L, 1_000_000L, 25_400L, 25_400_000L)
                    .get(List.of("nm", "um", "mm", "mil", "inch").indexOf(word));
            }
            long[] ends = new long[told.size()];
            for (int i = 0; i < ends.length; i++) {
                ends[i] = whole(told.get(i).multiply(BigDecimal.valueOf(unit)), 1_000_000_000_000L, places.get(i));
            }
            if (ends.length == 2 && ends[1] < ends[0]) {
                throw new Wrong(places.get(1));
            }
            s.low = most ? -1 : ends[0];
            s.high = least ? -1 : ends[ends.length - 1];
        }

        private static long whole(BigDecimal told, long most, int word) {
            if (told.stripTrailingZeros().scale() > 0 || told.compareTo(BigDecimal.valueOf(most)) > 0) {
                throw new Wrong(word);
            }
            return told.longValueExact();
        }

        static int key(Said s, int i) {
            return (s.kind == 12 ? 1_000_000 : 0) + s.rank * 1_000 + i;
        }

        private static boolean held(Said a, int i, Said b, int k) {
            return a.thingKind[i] < 0 || a.thingKind[i] == b.thingKind[k] && a.thing[i] == b.thing[k];
        }

        boolean covers(Said a, Said b) {
            boolean kind = a.kind == b.kind || a.kind == 12 && b.kind == 0;
            boolean pair = a.kind == 0 || a.kind == 12;
            boolean things = pair ? held(a, 0, b, 0) && held(a, 1, b, 1) || held(a, 0, b, 1) && held(a, 1, b, 0)
                : held(a, 0, b, 0);
            return kind && things && (a.layer == 0 || a.layer == b.layer) && areaHolds(a.area, b.area);
        }

        private boolean areaHolds(int a, int b) {
            if (a < 0 || a == b) {
                return true;
            }
            if (b < 0 || shapes[a] == null || shapes[b] == null) {
                return false;
            }
            return shapes[a][0] <= shapes[b][0] && shapes[a][1] <= shapes[b][1]
                && shapes[a][2] >= shapes[b][2] && shapes[a][3] >= shapes[b][3];
        }

        static boolean apart(Said a, Said b) {
            long low = Math.max(a.low, b.low);
            long high = Math.min(a.high < 0 ? Long.MAX_VALUE : a.high, b.high < 0 ? Long.MAX_VALUE : b.high);
            return low > high;
        }

        private String thingWritten(Said s, int i) {
            return s.thing[i] < 0 ? "any" : (s.thingKind[i] == 0 ? "class " : "net ") + names[s.thingKind[i]][s.thing[i]];
        }

        String written() {
            StringBuilder all = new StringBuilder();
            for (Said s : rules) {
                List<String> said = new ArrayList<>();
                said.add(KINDS[s.kind]);
                if (s.kind == 0 || s.kind == 12) {
                    said.add((s.kind == 0 ? "between " : "") + thingWritten(s, 0) + " and " + thingWritten(s, 1));
                } else {
                    said.add("of " + thingWritten(s, 0));
                }
                if (s.layer > 0) {
                    said.add("on " + (s.layer > 3 ? "layer " + (s.layer - 3)
                        : List.of("top", "bottom", "inner").get(s.layer - 1)));
                }
                if (s.area >= 0) {
                    said.add("in " + names[2][s.area]);
                }
                if (s.rank > 0) {
                    said.add("rank " + s.rank);
                }
                if (s.kind != 12) {
                    said.add(s.low < 0 ? "most " + s.high : s.high < 0 ? "least " + s.low
                        : s.low == s.high ? "" + s.low : s.low + " to " + s.high);
                }
                if (s.kind != 12 && s.kind != 5 && s.kind != 9) {
                    said.add("nm");
                }
                all.append(String.join(" ", said)).append(" ;\n");
            }
            return all.toString();
        }
    }
}
