/** Promises 7 (rank), 8 (shape), 9 (never) and 10 (clash), with the terms AHEAD, COVERS, NEVER and CLASH. */
public final class OrderTest {
    public static void main(String[] args) {
        rank();
        shape();
        neverByKind();
        neverByThings();
        neverByLayerAndArea();
        neverInOrder();
        clash();
        clashInOrder();
        Check.end();
    }

    private static void rank() {
        RuleText x = Check.board("via 1 nm; waive any and any; gap rank 5 1 nm; via rank 9 1 nm; gap 1 nm;"
            + "waive net gnd and any; test rank 5 3; via rank 99 1 nm;", 8);
        int[] ahead = {7, 1, 5, 3, 6, 0, 4, 2};
        for (int i = 0; i < ahead.length; i++) {
            Check.same("rank(" + i + ")", x.rank(i), ahead[i]);
        }
        Check.outOfBounds("rank(8)", () -> x.rank(8));
        Check.outOfBounds("rank(-1)", () -> x.rank(-1));
    }

    private static void shape() {
        RuleText x = Check.board();
        Check.yes("a point", x.shape(0, 3, 3, 3, 3));
        Check.no("x turned", x.shape(0, 5, 0, 4, 0));
        Check.no("y turned", x.shape(0, 0, 5, 0, 4));
        Check.no("both turned", x.shape(0, 1, 1, 0, 0));
        Check.yes("all there is", x.shape(15, Long.MIN_VALUE, Long.MIN_VALUE, Long.MAX_VALUE, Long.MAX_VALUE));
        Check.no("far turned", x.shape(15, Long.MAX_VALUE, 0, Long.MIN_VALUE, 0));
        int[] none = {-1, 16, Integer.MIN_VALUE, Integer.MAX_VALUE};
        for (int name : none) {
            Check.outOfBounds("shape(" + name + ", ..)", () -> x.shape(name, 0, 0, 1, 1));
            Check.outOfBounds("shape(" + name + ", turned)", () -> x.shape(name, 1, 1, 0, 0));
        }
        // A refused shape changes nothing, a later one takes the place of the first.
        Check.reads(x, "via in in1 1 nm; via in box 1 nm;", 2);
        x.shape(0, 0, 0, 10, 10);
        x.shape(1, 2, 2, 5, 5);
        Check.same("never(0)", x.never(0), 0);
        Check.no("turned", x.shape(0, 100, 100, 99, 200));
        Check.same("never(0) behind a turned one", x.never(0), 0);
        Check.yes("moved", x.shape(0, 100, 100, 101, 200));
        Check.same("never(0) behind a moved one", x.never(0), -1);
    }

    /** The later of two rules stands ahead of the first: does it cover it? */
    private static void covers(String later, String first, boolean want) {
        RuleText x = Check.board(first + later, 2);
        x.shape(0, 0, 0, 10, 10);
        x.shape(1, 2, 2, 5, 5);
        Check.same("never(0) of [" + first + later + "]", x.never(0), want ? 0 : -1);
        Check.same("never(1) of [" + first + later + "]", x.never(1), -1);
        Check.same("never(-1) of [" + first + later + "]", x.never(-1), -1);
    }

    private static void neverByKind() {
        covers("via 1 nm;", "via 9 nm;", true);
        covers("via 1 nm;", "width 1 nm;", false);
        covers("gap 1 nm;", "gap 1 nm;", true);
        covers("waive any and any;", "gap 1 nm;", true);
        covers("waive any and any;", "gap on top in box rank 99 1 nm;", true);
        covers("waive any and any;", "via 1 nm;", false);
        covers("waive any and any;", "waive any and any;", true);
        covers("waive any and any;", "waive net gnd and class pwr;", true);
        covers("waive net gnd and any;", "waive any and any;", false);
        // A waiver stands ahead of a later gap, which never covers a waiver.
        RuleText x = Check.board("waive any and any; gap rank 99 1 nm;", 2);
        Check.same("never(0)", x.never(0), 1);
        Check.same("never(1)", x.never(1), -1);
    }

    private static void neverByThings() {
        covers("via of any 1 nm;", "via of net gnd 1 nm;", true);
        covers("via of net gnd 1 nm;", "via of net gnd 1 nm;", true);
        covers("via of net gnd 1 nm;", "via of net clk 1 nm;", false);
        covers("via of net gnd 1 nm;", "via of class pwr 1 nm;", false);
        covers("via of net gnd 1 nm;", "via 1 nm;", false);
        String[] pairs = {"any and any", "any and class pwr", "class pwr and any", "net gnd and any",
            "class pwr and net gnd", "net gnd and class pwr", "class pwr and class pwr", "net gnd and net gnd",
            "class sig and class pwr"};
        String[] covered = {"012345678", "124568", "124568", "3457", "45", "45", "6", "7", "8"};
        for (int i = 0; i < pairs.length; i++) {
            for (int k = 0; k < pairs.length; k++) {
                boolean want = covered[i].indexOf('0' + k) >= 0;
                covers("gap between " + pairs[i] + " 1 nm;", "gap between " + pairs[k] + " 1 nm;", want);
                covers("waive " + pairs[i] + ";", "gap between " + pairs[k] + " 1 nm;", want);
                covers("waive " + pairs[i] + ";", "waive " + pairs[k] + ";", want);
            }
        }
    }

    private static void neverByLayerAndArea() {
        covers("via 1 nm;", "via on top 1 nm;", true);
        covers("via on top 1 nm;", "via on top 1 nm;", true);
        covers("via on top 1 nm;", "via on bottom 1 nm;", false);
        covers("via on top 1 nm;", "via 1 nm;", false);
        covers("via on inner 1 nm;", "via on layer 2 1 nm;", false);
        covers("via on layer 2 1 nm;", "via on layer 02 1 nm;", true);
        covers("via on layer 2 1 nm;", "via on layer 3 1 nm;", false);
        covers("via 1 nm;", "via in box 1 nm;", true);
        covers("via in box 1 nm;", "via 1 nm;", false);
        covers("via in box 1 nm;", "via in box 1 nm;", true);
        covers("via in box 1 nm;", "via in in1 1 nm;", true);
        covers("via in in1 1 nm;", "via in box 1 nm;", false);
        // The shape of bay is not told.
        covers("via in bay 1 nm;", "via in bay 1 nm;", true);
        covers("via in bay 1 nm;", "via in box 1 nm;", false);
        covers("via in box 1 nm;", "via in bay 1 nm;", false);
        covers("via on top in box 1 nm;", "via on top in in1 1 nm;", true);
        covers("via on top in box 1 nm;", "via on bottom in in1 1 nm;", false);
        covers("gap between net gnd and any in box 1 nm;", "gap between class pwr and net gnd on top in in1 1 nm;", true);
        holds(0, 0, 10, 10, true);
        holds(2, 2, 5, 5, true);
        holds(-1, 0, 10, 10, false);
        holds(0, -1, 10, 10, false);
        holds(0, 0, 11, 10, false);
        holds(0, 0, 10, 11, false);
        holds(10, 10, 10, 10, true);
        holds(20, 20, 30, 30, false);
        holds(Long.MIN_VALUE, 0, 10, 10, false);
        holds(0, 0, Long.MAX_VALUE, 10, false);
    }

    private static void holds(long x0, long y0, long x1, long y1, boolean want) {
        RuleText x = Check.board("via in in1 1 nm; via in box 1 nm;", 2);
        x.shape(0, 0, 0, 10, 10);
        x.shape(1, x0, y0, x1, y1);
        Check.same("never(0) with " + x0 + " " + y0 + " " + x1 + " " + y1, x.never(0), want ? 0 : -1);
    }

    private static void neverInOrder() {
        RuleText x = Check.board("via rank 1 1 nm; via on top 1 nm; via 1 nm;"
            + "width 1 nm; width rank 1 1 nm; width of net gnd rank 2 1 nm;", 6);
        int[] want = {1, 2, 3, -1, -1};
        for (int k = 0; k < want.length; k++) {
            Check.same("never(" + k + ")", x.never(k), want[k]);
        }
        Check.same("never(-1)", x.never(-1), -1);
        Check.same("never(lowest)", x.never(Integer.MIN_VALUE), -1);
        Check.same("never(highest)", x.never(Integer.MAX_VALUE), -1);
    }

    private static void clashes(String one, String other, boolean want) {
        String[] texts = {one + other, other + one};
        for (String text : texts) {
            RuleText x = Check.board(text, 2);
            x.shape(0, 0, 0, 10, 10);
            x.shape(1, 2, 2, 5, 5);
            Check.same("clash(0, 0) of [" + text + "]", x.clash(0, 0), want ? 0 : -1);
            Check.same("clash(0, 1) of [" + text + "]", x.clash(0, 1), want ? 1 : -1);
            Check.same("clash(1, 0) of [" + text + "]", x.clash(1, 0), -1);
        }
    }

    private static void clash() {
        clashes("via 1 nm;", "via 2 nm;", true);
        clashes("via 1 nm;", "via 1 nm;", false);
        clashes("via 1 to 3 nm;", "via 3 to 5 nm;", false);
        clashes("via 1 to 3 nm;", "via 4 to 5 nm;", true);
        clashes("via 1 to 9 nm;", "via 4 to 5 nm;", false);
        clashes("via least 5 nm;", "via most 5 nm;", false);
        clashes("via least 6 nm;", "via most 5 nm;", true);
        clashes("via least 6 nm;", "via least 9 nm;", false);
        clashes("via most 6 nm;", "via most 0 nm;", false);
        clashes("via least 6 nm;", "via 1 to 5 nm;", true);
        clashes("via most 6 nm;", "via 7 nm;", true);
        clashes("via most 6 nm;", "via 6 nm;", false);
        clashes("turns most 6;", "turns least 7;", true);
        clashes("via rank 1 1 nm;", "via rank 2 2 nm;", true);
        clashes("via 1 nm;", "width 2 nm;", false);
        clashes("via 1 nm;", "via of net gnd 2 nm;", false);
        clashes("via of net gnd 1 nm;", "via of net gnd 2 nm;", true);
        clashes("via of net gnd 1 nm;", "via of net clk 2 nm;", false);
        clashes("via on top 1 nm;", "via 2 nm;", false);
        clashes("via on top 1 nm;", "via on top 2 nm;", true);
        clashes("via in box 1 nm;", "via in in1 2 nm;", false);
        clashes("via in bay 1 nm;", "via in bay 2 nm;", true);
        clashes("gap between class pwr and net gnd 1 nm;", "gap between net gnd and class pwr 2 nm;", true);
        clashes("gap between class pwr and net gnd 1 nm;", "gap between class pwr and any 2 nm;", false);
        clashes("waive any and any;", "gap 1 nm;", false);
        clashes("waive any and any;", "waive any and any;", false);
        RuleText x = Check.board("via in box 1 nm; via in in1 2 nm;", 2);
        x.shape(0, 0, 0, 10, 10);
        x.shape(1, 0, 0, 10, 10);
        Check.same("clash(0, 0) of two areas of one shape", x.clash(0, 0), 0);
    }

    private static void clashInOrder() {
        RuleText x = Check.board("via 1 nm; turns 1; via 2 nm; turns 2; via 1 nm; waive any and any; turns 3;", 7);
        int[][] want = {{0, 2}, {1, 3}, {1, 6}, {2, 4}, {3, 6}, {-1, -1}};
        for (int k = 0; k < want.length; k++) {
            Check.same("clash(" + k + ", 0)", x.clash(k, 0), want[k][0]);
            Check.same("clash(" + k + ", 1)", x.clash(k, 1), want[k][1]);
        }
        Check.same("clash(-1, 0)", x.clash(-1, 0), -1);
        Check.same("clash(lowest, 1)", x.clash(Integer.MIN_VALUE, 1), -1);
        int[] none = {-1, 2, Integer.MIN_VALUE, Integer.MAX_VALUE};
        for (int which : none) {
            Check.outOfBounds("clash(0, " + which + ")", () -> x.clash(0, which));
            Check.outOfBounds("clash(-1, " + which + ")", () -> x.clash(-1, which));
            Check.outOfBounds("clash(99, " + which + ")", () -> x.clash(99, which));
        }
    }
}
