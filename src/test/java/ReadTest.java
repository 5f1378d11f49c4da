/** Promise 4 (read) with the terms WORDS, RULES and WRONG. */
public final class ReadTest {
    public static void main(String[] args) {
        words();
        sentences();
        breakingOff();
        wrongWords();
        numbers();
        spans();
        layersAndRanks();
        ruleLimit();
        allStays();
        Check.end();
    }

    /** A wrong word's answer: -1 minus its number. */
    private static int wrong(int word) {
        return -1 - word;
    }

    private static void reads(String text, int answer) {
        Check.board(text, answer);
    }

    private static void words() {
        reads("", 0);
        reads(" \n \n", 0);
        reads("turns 1;turns 2;", 2);
        reads("turns 1;turns\n\n2\n;\n", 2);
        reads("  turns   1  ;  ", 1);
        reads(";", wrong(0));
        reads("turns 1;;", wrong(3));
        reads("turns;1", wrong(1));
        reads("tur ns 1;", wrong(0));
        reads("turns1;", wrong(0));
        reads("turns. 1;", wrong(0));
        reads(".", wrong(0));
        reads("gap 1mm;", wrong(1));
        reads("gap 1\nmm;", 1);
    }

    private static void sentences() {
        String[] kinds = {"gap", "width", "via", "length", "skew", "turns", "height", "mask", "silk", "test",
            "plane", "ring"};
        for (int i = 0; i < kinds.length; i++) {
            boolean counted = i == 5 || i == 9;
            String tail = counted ? " 7;" : " 7 nm;";
            RuleText x = Check.board(kinds[i] + tail, 1);
            Check.same("kind of " + kinds[i], x.rule(0, 0), i);
            reads(kinds[i] + (counted ? " 7 nm;" : " 7;"), wrong(2));
            reads(kinds[i] + " of any" + tail, i == 0 ? wrong(1) : 1);
            reads(kinds[i] + " between any and any" + tail, i == 0 ? 1 : wrong(1));
            reads(kinds[i] + " on top in box rank 3 least" + tail, 1);
        }
        reads("waive any and any;", 1);
        reads("waive class pwr and net clk;", 1);
        reads("waive net clk and class pwr;", 1);
        reads("waive any;", wrong(2));
        reads("waive;", wrong(1));
        reads("waive between any and any;", wrong(1));
        reads("waive any and any on top;", wrong(4));
        reads("waive any and any in box;", wrong(4));
        reads("waive any and any rank 1;", wrong(4));
        reads("waive any and any 1 nm;", wrong(4));
        reads("waive any any;", wrong(2));
    }

    private static void breakingOff() {
        String whole = "gap between class pwr and net gnd on layer 3 in in1 rank 7 10 to 20 mil ;";
        String[] words = whole.split(" ");
        StringBuilder begun = new StringBuilder();
        for (int i = 0; i < words.length; i++) {
            reads(begun.toString(), i == 0 ? 0 : wrong(i));
            begun.append(words[i]).append(' ');
        }
        reads(begun.toString(), 1);
        reads(begun + "gap", wrong(words.length + 1));
        reads("waive", wrong(1));
        reads("waive any", wrong(2));
        reads("waive any and", wrong(3));
        reads("waive any and any", wrong(4));
        reads("turns 3", wrong(2));
        reads("turns least", wrong(2));
        reads("gap least 3", wrong(3));
        // The unit has not come, so the number is not yet asked.
        reads("gap 0.0000", wrong(2));
        reads("gap 0.000001", wrong(2));
        reads("gap 999999999 to 1", wrong(4));
    }

    private static void wrongWords() {
        reads("foo 1 nm;", wrong(0));
        reads("any", wrong(0));
        reads("gap between class nix and any 1 nm;", wrong(3));
        reads("gap between any and net nix 1 nm;", wrong(5));
        reads("gap between class gnd and any 1 nm;", wrong(3));
        reads("gap between net pwr and any 1 nm;", wrong(3));
        reads("gap between area box and any 1 nm;", wrong(2));
        reads("gap between pwr and any 1 nm;", wrong(2));
        reads("gap between class pw and any 1 nm;", wrong(3));
        reads("gap between class pwrs and any 1 nm;", wrong(3));
        reads("gap between class ; and any 1 nm;", wrong(3));
        reads("width of class pwr and any 1 nm;", wrong(4));
        reads("width of 1 nm;", wrong(2));
        reads("width in pwr 1 nm;", wrong(2));
        reads("width in any 1 nm;", wrong(2));
        reads("width in box on top 1 nm;", wrong(3));
        reads("width rank 1 in box 1 nm;", wrong(3));
        reads("width on top of any 1 nm;", wrong(3));
        reads("width on top on top 1 nm;", wrong(3));
        reads("width least most 1 nm;", wrong(2));
        reads("width least 1 to 2 nm;", wrong(3));
        reads("width most 1 to 2 nm;", wrong(3));
        reads("width 1 to 2 to 3 nm;", wrong(4));
        reads("width 1 to least 2 nm;", wrong(3));
        reads("width 1 nm to 2 nm;", wrong(3));
        reads("width 1 cm;", wrong(2));
        reads("width 1 inches;", wrong(2));
        reads("width 1 nm 2", wrong(3));
        reads("width 1 nm waive", wrong(3));
        reads("turns 1 to 2 nm;", wrong(4));
        reads("gap 1 nm; via 1 nm; foo", wrong(8));
        // A word that names a thing is its name, whatever else it may mean.
        RuleText x = new RuleText();
        Check.call(x, 0, 0, "and");
        Check.call(x, 1, 0, "5");
        Check.call(x, 2, 0, "any");
        Check.reads(x, "gap between class and and net 5 in any 1 nm;", 1);
    }

    private static void numbers() {
        String[] none = {"1.", ".5", "1.5.2", "1..2", "1234567890", "0000000001", "1.1234567", "1.0000000", "a",
            "1a", "a1", "1.a", "1a5", "nm", "to", "1.5a", "."};
        for (String n : none) {
            reads("gap " + n + " nm;", wrong(1));
            reads("gap " + n + " foo;", wrong(1));
            reads("turns " + n + ";", wrong(1));
            reads("gap 1 to " + n + " nm;", wrong(3));
            reads("gap least " + n, wrong(2));
        }
        String[] fine = {"0 nm", "000000001 nm", "1.000000 nm", "0.001 um", "0.000001 mm", "0.005 mil",
            "0.000005 inch", "999999999 nm", "999999999 um", "999999.999999 mm", "1000000 mm", "1000000.0 mm",
            "39370.07874 inch", "39370078.74 mil"};
        long[] nm = {0, 1, 1, 1, 1, 127, 127, 999_999_999L, 999_999_999_000L, 999_999_999_999L,
            1_000_000_000_000L, 1_000_000_000_000L, 999_999_999_996L, 999_999_999_996L};
        for (int i = 0; i < fine.length; i++) {
            RuleText x = Check.board("gap " + fine[i] + ";", 1);
            Check.same("value(0, 0) of " + fine[i], x.value(0, 0), nm[i]);
            Check.same("value(0, 1) of " + fine[i], x.value(0, 1), nm[i]);
        }
        String[] not = {"0.5 nm", "1.000001 nm", "0.0001 um", "1.0005 um", "0.001 mil", "0.000001 inch",
            "1000000.000001 mm", "1000001 mm", "999999999 mm", "999999999 mil", "999999999 inch",
            "999999999.999999 inch", "39370.07875 inch", "39370079 mil"};
        for (String n : not) {
            reads("gap " + n + ";", wrong(1));
            reads("gap " + n, wrong(1));
            reads("gap most " + n + ";", wrong(2));
            reads("gap 0 to " + n + ";", wrong(3));
            // The low end is asked ahead of the high one, both only when the unit has come.
            reads("gap " + n.split(" ")[0] + " to " + n + ";", wrong(1));
            reads("gap " + n.split(" ")[0] + " foo;", wrong(2));
        }
        String[] counts = {"0", "5.0", "5.000000", "1000000", "1000000.0", "001"};
        long[] worth = {0, 5, 5, 1_000_000, 1_000_000, 1};
        for (int i = 0; i < counts.length; i++) {
            Check.same("turns " + counts[i], Check.board("turns " + counts[i] + ";", 1).value(0, 0), worth[i]);
            Check.same("test " + counts[i], Check.board("test least " + counts[i] + ";", 1).value(0, 0), worth[i]);
        }
        String[] notCounts = {"5.5", "0.000001", "1000001", "1000000.000001", "999999999"};
        for (String n : notCounts) {
            reads("turns " + n + ";", wrong(1));
            reads("turns " + n, wrong(1));
            reads("test " + n + " to foo", wrong(1));
            reads("test 0 to " + n + " foo", wrong(3));
            reads("test most " + n + ";", wrong(2));
        }
    }

    private static void spans() {
        reads("gap 5 to 5 um;", 1);
        reads("gap 5.0 to 5 um;", 1);
        reads("gap 5 to 6 um;", 1);
        reads("gap 6 to 5 um;", wrong(3));
        reads("gap 6 to 5 um", wrong(3));
        reads("gap 1.000001 to 1 mm;", wrong(3));
        reads("gap 6 to 0.0001 um;", wrong(3));
        reads("gap 0.0001 to 0 um;", wrong(1));
        reads("gap 6 to 5 foo;", wrong(4));
        reads("turns 5 to 5;", 1);
        reads("turns 6 to 5;", wrong(3));
        reads("turns 6 to 5 foo", wrong(3));
        reads("turns 6 to 5", wrong(3));
        RuleText x = Check.board("gap 10 to 20 mil; via least 1 inch; via most 2 um; turns 3; test 1 to 2;", 5);
        long[][] ends = {{254_000, 508_000}, {25_400_000, -1}, {-1, 2_000}, {3, 3}, {1, 2}};
        for (int i = 0; i < ends.length; i++) {
            Check.same("low end of " + i, x.value(i, 0), ends[i][0]);
            Check.same("high end of " + i, x.value(i, 1), ends[i][1]);
        }
    }

    private static void layersAndRanks() {
        for (int n = 0; n <= 99; n++) {
            boolean layer = n >= 1 && n <= 32;
            RuleText x = Check.board("via on layer " + n + " 1 nm;", layer ? 1 : wrong(3));
            RuleText y = Check.board("via rank " + n + " 1 nm;", 1);
            Check.same("rule(0, 7)", y.rule(0, 7), n);
            if (layer) {
                Check.same("rule(0, 5)", x.rule(0, 5), 3 + n);
            }
        }
        Check.same("layer 07", Check.board("via on layer 07 1 nm;", 1).rule(0, 5), 10);
        Check.same("rank 07", Check.board("via rank 07 1 nm;", 1).rule(0, 7), 7);
        Check.same("rank 00", Check.board("via rank 00 1 nm;", 1).rule(0, 7), 0);
        String[] none = {"001", "100", "1.0", "a", "1a", ";", ".", "7.", "top"};
        for (String n : none) {
            reads("via on layer " + n + " 1 nm;", wrong(3));
            reads("via rank " + n + " 1 nm;", wrong(2));
        }
        reads("via on 3 1 nm;", wrong(2));
        reads("via on left 1 nm;", wrong(2));
        reads("via on layer top 1 nm;", wrong(3));
        reads("via on top", wrong(3));
        reads("via on", wrong(2));
        reads("via on layer", wrong(3));
        reads("via rank", wrong(2));
        reads("via rank 1", wrong(3));
    }

    private static void ruleLimit() {
        StringBuilder text = new StringBuilder();
        for (int i = 0; i < 60; i++) {
            text.append("test 1;");
        }
        Check.board(text.toString(), 60);
        Check.board(text + " \n", 60);
        Check.board(text + "test 1;", wrong(180));
        Check.board(text + "test", wrong(180));
        Check.board(text + "foo", wrong(180));
        Check.board(text + ";", wrong(180));
    }

    private static void allStays() {
        RuleText x = Check.board("\nwidth rank 4 5 nm; turns 2;", 2);
        Check.reads(x, "via 1 nm; mask 2 nm; silk 1 nm; ring 1 foo;", wrong(14));
        Check.same("kinds() behind a wrong word", x.kinds(), 2);
        Check.same("written behind a wrong word", Check.written(x), "width of any rank 4 5 nm ;\nturns of any 2 ;\n");
        Check.same("line(0) behind a wrong word", x.line(0), 1);
        Check.same("value(0, 1) behind a wrong word", x.value(0, 1), 5);
        Check.outOfBounds("rank(2) behind a wrong word", () -> x.rank(2));
        Check.same("read() of the same text", x.read(), wrong(14));
        Check.reads(x, "via 1 nm;", 1);
        Check.same("kinds() then", x.kinds(), 1);
        Check.same("rule(0, 7) then", x.rule(0, 7), 0);
        Check.tell(x, "via 2 nm;");
        Check.same("read() of a text that grew", x.read(), 2);
        Check.same("read() once more", x.read(), 2);
    }
}
