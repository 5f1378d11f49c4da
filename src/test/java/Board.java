/** One object under test. Its calls are counted, as the document promises nothing behind the 512th. */
final class Board {
    static final int CALLS = 512;

    private final RuleText x = new RuleText();
    private final int limit;
    // The text as it was told, for the reader of a wrong answer.
    private final StringBuilder told = new StringBuilder();
    private int calls;

    Board() {
        this(CALLS);
    }

    /** For the one limit that 512 calls cannot reach. */
    Board(int limit) {
        this.limit = limit;
    }

    /** Classes a 0 and b 15, nets n 0 and m 15, areas p 0 and q 15: the first and the last of each kind. */
    static Board named() {
        return new Board().name(0, 0, "a").name(0, 15, "b").name(1, 0, "n").name(1, 15, "m").name(2, 0, "p")
            .name(2, 15, "q");
    }

    /** A named board that has read a text. */
    static Board of(String text, int answer) {
        return named().reads(text, answer);
    }

    /** A named board for whose text a word is the first wrong one. */
    static void wrong(String text, int word) {
        of(text, -1 - word);
    }

    /** The object, for one call. */
    RuleText call() {
        calls++;
        if (calls == limit + 1) {
            Check.same("calls of one object", calls, limit);
        }
        return x;
    }

    private String where() {
        return "[" + told.toString().trim() + "] ";
    }

    int callsLeft() {
        return limit - calls;
    }

    Board name(int kind, int thing, String letters) {
        for (int i = 0; i < letters.length(); i++) {
            String what = "name(" + kind + ", " + thing + ", " + letters.charAt(i) + ")";
            Check.yes(what, call().name(kind, thing, letters.charAt(i)));
        }
        return this;
    }

    Board shape(int area, long x0, long y0, long x1, long y1) {
        Check.yes("shape(" + area + ", ..)", call().shape(area, x0, y0, x1, y1));
        return this;
    }

    Board text(String more) {
        for (int i = 0; i < more.length(); i++) {
            Check.yes("unit(" + (int) more.charAt(i) + ")", call().unit(more.charAt(i)));
        }
        told.append(more);
        return this;
    }

    /** Tells more text, then reads it all. */
    Board reads(String text, int answer) {
        return text(text).reads(answer);
    }

    /** Reads the text that is there. */
    Board reads(int answer) {
        Check.same(where() + "read()", call().read(), answer);
        return this;
    }

    Board clear() {
        call().clear();
        told.setLength(0);
        return this;
    }

    Board part(int k, int what, int want) {
        Check.same(where() + "rule(" + k + ", " + what + ")", call().rule(k, what), want);
        return this;
    }

    Board ends(int k, long low, long high) {
        Check.same(where() + "value(" + k + ", 0)", call().value(k, 0), low);
        Check.same(where() + "value(" + k + ", 1)", call().value(k, 1), high);
        return this;
    }

    Board never(int... want) {
        for (int k = 0; k < want.length; k++) {
            Check.same(where() + "never(" + k + ")", call().never(k), want[k]);
        }
        Check.same(where() + "never(" + want.length + ")", call().never(want.length), -1);
        return this;
    }

    /** The lower and the other one of each two that clash, one behind the other. */
    Board clashes(int... want) {
        for (int i = 0; i < want.length; i++) {
            Check.same(where() + "clash(" + i / 2 + ", " + i % 2 + ")", call().clash(i / 2, i % 2), want[i]);
        }
        Check.same(where() + "clash(" + want.length / 2 + ", 0)", call().clash(want.length / 2, 0), -1);
        Check.same(where() + "clash(" + want.length / 2 + ", 1)", call().clash(want.length / 2, 1), -1);
        return this;
    }

    Board writes(String want) {
        Check.same(where() + "written", written(), want);
        return this;
    }

    String written() {
        StringBuilder all = new StringBuilder();
        for (int u = call().write(0); u != -1; u = call().write(all.length())) {
            all.append((char) u);
        }
        return all.toString();
    }

    /** All that the object answers of its rules, in one text. */
    String all() {
        StringBuilder all = new StringBuilder(written());
        int count = 0;
        while (hasRule(count)) {
            for (int what = 0; what < 8; what++) {
                all.append(call().rule(count, what)).append(' ');
            }
            all.append(call().value(count, 0)).append(' ').append(call().value(count, 1)).append(" rank ")
                .append(call().rank(count)).append(" line ").append(call().line(count)).append('\n');
            count++;
        }
        for (int k = 0, i = call().never(0); i != -1; k++, i = call().never(k)) {
            all.append("never ").append(i).append('\n');
        }
        for (int k = 0, i = call().clash(0, 0); i != -1; k++, i = call().clash(k, 0)) {
            all.append("clash ").append(i).append(' ').append(call().clash(k, 1)).append('\n');
        }
        return all.append("kinds ").append(call().kinds()).append('\n').toString();
    }

    private boolean hasRule(int k) {
        try {
            call().line(k);
            return true;
        } catch (IndexOutOfBoundsException e) {
            return false;
        }
    }
}
