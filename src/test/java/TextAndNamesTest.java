/** Promises 1 (a new object), 2 (unit), 3 (name) and 14 (clear). */
public final class TextAndNamesTest {
    public static void main(String[] args) {
        newObject();
        unit();
        textLimit();
        name();
        lowestOfOneName();
        clear();
        Check.end();
    }

    private static void newObject() {
        RuleText x = new RuleText();
        Check.same("NONE", RuleText.NONE, -1);
        Check.same("kinds() at first", x.kinds(), 0);
        Check.same("never(0) at first", x.never(0), -1);
        Check.same("clash(0, 0) at first", x.clash(0, 0), -1);
        Check.same("clash(0, 1) at first", x.clash(0, 1), -1);
        Check.same("write(0) at first", x.write(0), -1);
        Check.same("read() of no text", x.read(), 0);
        Check.outOfBounds("rule(0, 0) at first", () -> x.rule(0, 0));
        Check.outOfBounds("value(0, 0) at first", () -> x.value(0, 0));
        Check.outOfBounds("rank(0) at first", () -> x.rank(0));
        Check.outOfBounds("line(0) at first", () -> x.line(0));
        for (int kind = 0; kind < 3; kind++) {
            String[] head = {"width of class ", "width of net ", "width in "};
            Check.reads(x, head[kind] + "a 1 nm;", kind == 2 ? -3 : -4);
            Check.reads(x, head[kind], kind == 2 ? -3 : -4);
        }
        // No shape: the wide area is not known to hold the narrow one.
        Check.call(x, 2, 0, "a");
        Check.call(x, 2, 1, "b");
        Check.reads(x, "via in a 1 nm; via in b 1 nm;", 2);
        Check.same("never(0) without shapes", x.never(0), -1);
    }

    private static void unit() {
        for (int u = -300; u <= 1000; u++) {
            boolean fine = u >= 0 && u < 128 && "\n abcdefghijklmnopqrstuvwxyz0123456789.;".indexOf(u) >= 0;
            Check.same("unit(" + u + ")", new RuleText().unit(u) ? 1 : 0, fine ? 1 : 0);
        }
        int[] far = {Integer.MIN_VALUE, Integer.MAX_VALUE, 65536 + 'a', 65536 + 10, -65536 + ';'};
        for (int u : far) {
            Check.no("unit(" + u + ")", new RuleText().unit(u));
        }
        RuleText x = new RuleText();
        Check.tell(x, "turns 1");
        Check.no("unit(A)", x.unit('A'));
        Check.no("unit(13)", x.unit(13));
        Check.no("unit(9)", x.unit(9));
        Check.tell(x, "2;");
        Check.same("read() behind refused ones", x.read(), 1);
        Check.same("value(0, 0)", x.value(0, 0), 12);
    }

    // More calls than the document promises for one object; the limit cannot be reached with fewer.
    private static void textLimit() {
        RuleText x = new RuleText();
        for (int i = 0; i < 2_993; i++) {
            Check.yes("unit(32) " + i, x.unit(32));
        }
        Check.tell(x, "test 1;");
        Check.no("unit(32) behind 3,000", x.unit(32));
        Check.no("unit(59) behind 3,000", x.unit(59));
        Check.same("read() of 3,000", x.read(), 1);
        x.clear();
        Check.yes("unit(32) behind clear()", x.unit(32));
    }

    private static void name() {
        RuleText x = new RuleText();
        for (int u = -300; u <= 1000; u++) {
            boolean fine = u >= 'a' && u <= 'z' || u >= '0' && u <= '9';
            int kind = (u + 300) % 3;
            Check.same("name(" + kind + ", 3, " + u + ")", new RuleText().name(kind, 3, u) ? 1 : 0, fine ? 1 : 0);
        }
        Check.no("name(0, 0, 65536 + a)", x.name(0, 0, 65536 + 'a'));
        for (int kind = 0; kind < 3; kind++) {
            Check.call(x, kind, 15, "abcdefg");
            Check.no("name(.., .)", x.name(kind, 15, '.'));
            Check.call(x, kind, 15, "8");
            Check.no("the ninth letter", x.name(kind, 15, 'h'));
        }
        Check.reads(x, "gap between class abcdefg8 and net abcdefg8 in abcdefg8 1 nm;", 1);
        Check.same("rule(0, 2)", x.rule(0, 2), 15);
        Check.same("rule(0, 4)", x.rule(0, 4), 15);
        Check.same("rule(0, 6)", x.rule(0, 6), 15);
        Check.reads(x, "width of class abcdefg8h 1 nm;", -4);
        int[] noKinds = {-1, 3, Integer.MIN_VALUE, Integer.MAX_VALUE};
        int[] noThings = {-1, 16, Integer.MIN_VALUE, Integer.MAX_VALUE};
        for (int no : noKinds) {
            Check.outOfBounds("name(" + no + ", 0, a)", () -> x.name(no, 0, 'a'));
            Check.outOfBounds("name(" + no + ", 0, A)", () -> x.name(no, 0, 'A'));
        }
        for (int no : noThings) {
            Check.outOfBounds("name(0, " + no + ", a)", () -> x.name(0, no, 'a'));
            Check.outOfBounds("name(2, " + no + ", A)", () -> x.name(2, no, 'A'));
        }
    }

    private static void lowestOfOneName() {
        RuleText x = new RuleText();
        Check.call(x, 0, 9, "a");
        Check.call(x, 0, 4, "a");
        Check.call(x, 0, 12, "a");
        Check.call(x, 1, 2, "a");
        Check.call(x, 2, 1, "a");
        Check.reads(x, "width of class a in a 1 nm; width of net a 1 nm;", 2);
        Check.same("the lowest class", x.rule(0, 2), 4);
        Check.same("the area", x.rule(0, 6), 1);
        Check.same("the net", x.rule(1, 2), 2);
        Check.call(x, 0, 4, "b");
        Check.same("a rule stays with its thing", x.rule(0, 2), 4);
        Check.same("read() anew", x.read(), 2);
        Check.same("the lowest class then", x.rule(0, 2), 9);
    }

    private static void clear() {
        RuleText x = Check.board("\nwidth of class pwr in box 5 nm; width in in1 4 nm;", 2);
        Check.yes("shape(0, ..)", x.shape(0, 0, 0, 9, 9));
        Check.yes("shape(1, ..)", x.shape(1, 1, 1, 2, 2));
        String before = Check.written(x);
        x.clear();
        Check.same("written behind clear()", Check.written(x), before);
        Check.same("value(0, 0) behind clear()", x.value(0, 0), 5);
        Check.same("line(0) behind clear()", x.line(0), 1);
        Check.tell(x, "via in in1 1 nm;via in box 2 nm;");
        Check.same("read() behind clear()", x.read(), 2);
        Check.same("names and shapes stay", x.never(0), 0);
        x.clear();
        Check.same("read() of no text", x.read(), 0);
        Check.same("kinds() then", x.kinds(), 0);
        Check.same("write(0) then", x.write(0), -1);
    }
}
