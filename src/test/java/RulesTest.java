/** Promises 5 (rule), 6 (value), 11 (line), 12 (kinds) and 13 (write). */
public final class RulesTest {
    public static void main(String[] args) {
        rule();
        value();
        line();
        kinds();
        write();
        writtenNames();
        numbersWritten();
        Check.end();
    }

    private static void parts(RuleText x, int k, int... want) {
        for (int what = 0; what < 8; what++) {
            Check.same("rule(" + k + ", " + what + ")", x.rule(k, what), want[what]);
        }
    }

    private static void rule() {
        RuleText x = Check.board("gap between class pwr and net clk on layer 32 in bay rank 99 1 nm;"
            + "gap 1 nm; ring of net clk on top 1 nm; test of class sig on bottom in box 3;"
            + "waive net gnd and any; width of any on inner 1 nm; waive any and class sig; gap between any and net gnd 1 nm;"
            + "turns on layer 1 1; waive any and any;", 10);
        parts(x, 0, 0, 0, 0, 1, 2, 35, 2, 99);
        parts(x, 1, 0, -1, -1, -1, -1, 0, -1, 0);
        parts(x, 2, 11, 1, 2, -1, -1, 1, -1, 0);
        parts(x, 3, 9, 0, 1, -1, -1, 2, 0, 0);
        parts(x, 4, 12, 1, 0, -1, -1, 0, -1, 0);
        parts(x, 5, 1, -1, -1, -1, -1, 3, -1, 0);
        parts(x, 6, 12, -1, -1, 0, 1, 0, -1, 0);
        parts(x, 7, 0, -1, -1, 1, 0, 0, -1, 0);
        parts(x, 8, 5, -1, -1, -1, -1, 4, -1, 0);
        parts(x, 9, 12, -1, -1, -1, -1, 0, -1, 0);
        // Nothing of an old rule may shine through in the place where a new one stands.
        Check.reads(x, "via 1 nm;", 1);
        Check.reads(x, "via 1 nm;", 1);
        parts(x, 0, 2, -1, -1, -1, -1, 0, -1, 0);
        int[] none = {-1, 1, 9, 60, 64, Integer.MIN_VALUE, Integer.MAX_VALUE};
        for (int k : none) {
            Check.outOfBounds("rule(" + k + ", 0)", () -> x.rule(k, 0));
            Check.outOfBounds("value(" + k + ", 0)", () -> x.value(k, 0));
            Check.outOfBounds("rank(" + k + ")", () -> x.rank(k));
            Check.outOfBounds("line(" + k + ")", () -> x.line(k));
        }
        int[] noParts = {-1, 8, Integer.MIN_VALUE, Integer.MAX_VALUE};
        for (int what : noParts) {
            Check.outOfBounds("rule(0, " + what + ")", () -> x.rule(0, what));
        }
    }

    private static void value() {
        RuleText x = Check.board("waive any and any; gap 0 nm; gap least 0 nm; gap most 0 nm; gap 0 to 1 inch;", 5);
        long[][] ends = {{-1, -1}, {0, 0}, {0, -1}, {-1, 0}, {0, 25_400_000}};
        for (int i = 0; i < ends.length; i++) {
            Check.same("value(" + i + ", 0)", x.value(i, 0), ends[i][0]);
            Check.same("value(" + i + ", 1)", x.value(i, 1), ends[i][1]);
        }
        int[] none = {-1, 2, Integer.MIN_VALUE, Integer.MAX_VALUE};
        for (int end : none) {
            Check.outOfBounds("value(0, " + end + ")", () -> x.value(0, end));
        }
    }

    private static void line() {
        RuleText x = Check.board("via 1 nm;via 1 nm;\n\nvia\n1\nnm\n; via 1 nm\n;via 1 nm;\n \n via 1 nm;\n", 6);
        int[] lines = {0, 0, 2, 5, 6, 8};
        for (int i = 0; i < lines.length; i++) {
            Check.same("line(" + i + ")", x.line(i), lines[i]);
        }
        Check.outOfBounds("line(6)", () -> x.line(6));
        Check.same("read() anew", x.read(), 6);
        Check.same("line(5) anew", x.line(5), 8);
        Check.tell(x, "foo");
        Check.same("read() with a wrong word", x.read(), -25);
        Check.same("line(5) then", x.line(5), 8);
    }

    private static void kinds() {
        String all = "gap 1 nm;width 1 nm;via 1 nm;length 1 nm;skew 1 nm;turns 1;height 1 nm;mask 1 nm;silk 1 nm;"
            + "test 1;plane 1 nm;ring 1 nm;";
        Check.same("kinds() of all but waivers", Check.board(all + all, 24).kinds(), 12);
        Check.same("kinds() of all", Check.board(all + "waive any and any;", 13).kinds(), 13);
        Check.same("kinds() of waivers", Check.board("waive any and any;waive any and any;", 2).kinds(), 1);
        Check.same("kinds() of two", Check.board("test 1;via 1 nm;test 2;", 3).kinds(), 2);
    }

    private static void writes(String text, int count, String want) {
        Check.same("written [" + text + "]", Check.written(Check.board(text, count)), want);
    }

    private static void write() {
        writes("", 0, "");
        writes("gap 1 mm;", 1, "gap between any and any 1000000 nm ;\n");
        writes("width most 1 mil;", 1, "width of any most 25400 nm ;\n");
        writes("width of any least 0 um;", 1, "width of any least 0 nm ;\n");
        writes("gap between class pwr and any least 0.2 mm;\nwidth of net gnd on layer 3 in in1 rank 7 10 to 20 mil ;"
            + " turns most 3;\nwaive class pwr and\nnet clk;", 4,
            "gap between class pwr and any least 200000 nm ;\n"
            + "width of net gnd on layer 3 in in1 rank 7 254000 to 508000 nm ;\n"
            + "turns of any most 3 ;\nwaive class pwr and net clk ;\n");
        writes("via on top 5 to 5 nm;via on bottom 5 to 6 nm;via on inner rank 0 5 nm;", 3,
            "via of any on top 5 nm ;\nvia of any on bottom 5 to 6 nm ;\nvia of any on inner 5 nm ;\n");
        writes("via on layer 09 rank 09 5 nm;via on layer 32 rank 99 5 nm;", 2,
            "via of any on layer 9 rank 9 5 nm ;\nvia of any on layer 32 rank 99 5 nm ;\n");
        writes("test of class sig in bay 5.0;turns 1 to 1000000;", 2,
            "test of class sig in bay 5 ;\nturns of any 1 to 1000000 ;\n");
        writes("waive any and any;waive net clk and class sig;", 2,
            "waive any and any ;\nwaive net clk and class sig ;\n");
        RuleText x = Check.board("turns 1;", 1);
        Check.same("write(16)", x.write(16), 10);
        Check.same("write(17)", x.write(17), -1);
        Check.same("write(far)", x.write(Integer.MAX_VALUE), -1);
        Check.same("write(0)", x.write(0), 't');
        Check.outOfBounds("write(-1)", () -> x.write(-1));
        Check.outOfBounds("write(lowest)", () -> x.write(Integer.MIN_VALUE));
        Check.reads(x, "", 0);
        Check.same("write(0) of no rules", x.write(0), -1);
    }

    private static void writtenNames() {
        RuleText x = Check.board("gap between class pwr and net clk in bay 1 nm;", 1);
        Check.same("written", Check.written(x), "gap between class pwr and net clk in bay 1 nm ;\n");
        Check.call(x, 0, 0, "2");
        Check.call(x, 1, 2, "xyz01");
        Check.no("the ninth letter", x.name(1, 2, 'q'));
        Check.same("written", Check.written(x), "gap between class pwr2 and net clkxyz01 in bay 1 nm ;\n");
        Check.call(x, 2, 2, "s");
        Check.same("written", Check.written(x), "gap between class pwr2 and net clkxyz01 in bays 1 nm ;\n");
        Check.same("read() with a name that is no more", x.read(), -4);
        Check.same("written", Check.written(x), "gap between class pwr2 and net clkxyz01 in bays 1 nm ;\n");
    }

    private static void numbersWritten() {
        String[] told = {"0 nm", "9 nm", "10 nm", "99 nm", "100 nm", "101 nm", "1000000 mm", "999999.999999 mm",
            "900000000 um", "123456.789012 mm"};
        String[] want = {"0", "9", "10", "99", "100", "101", "1000000000000", "999999999999", "900000000000",
            "123456789012"};
        for (int i = 0; i < told.length; i++) {
            writes("via " + told[i] + ";", 1, "via of any " + want[i] + " nm ;\n");
            writes("via 0 to " + told[i] + ";", 1, "via of any " + (i == 0 ? "" : "0 to ") + want[i] + " nm ;\n");
        }
    }
}
