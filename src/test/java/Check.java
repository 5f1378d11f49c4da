/** What the tests share: counting wrong answers, telling texts and names, collecting what is written. */
final class Check {
    private static int wrong = 0;

    private Check() {
    }

    interface Call {
        void run();
    }

    static void same(String what, long got, long want) {
        if (got != want) {
            wrong++;
            System.out.println(what + " answered " + got + ", due is " + want);
        }
    }

    static void same(String what, String got, String want) {
        if (!got.equals(want)) {
            wrong++;
            System.out.println(what + " answered [" + got + "], due is [" + want + "]");
        }
    }

    static void yes(String what, boolean got) {
        same(what, got ? 1 : 0, 1);
    }

    static void no(String what, boolean got) {
        same(what, got ? 1 : 0, 0);
    }

    static void outOfBounds(String what, Call call) {
        try {
            call.run();
        } catch (IndexOutOfBoundsException e) {
            // A subclass would be the machine's own, not the document's.
            if (e.getClass() == IndexOutOfBoundsException.class) {
                return;
            }
        }
        wrong++;
        System.out.println(what + " did not throw IndexOutOfBoundsException");
    }

    static void end() {
        System.out.println(wrong == 0 ? "all answers are as due" : wrong + " answers are not as due");
        if (wrong != 0) {
            System.exit(1);
        }
    }

    static void tell(RuleText x, String text) {
        for (int i = 0; i < text.length(); i++) {
            yes("unit(" + (int) text.charAt(i) + ")", x.unit(text.charAt(i)));
        }
    }

    static void call(RuleText x, int kind, int thing, String name) {
        for (int i = 0; i < name.length(); i++) {
            yes("name(" + kind + ", " + thing + ", " + name.charAt(i) + ")", x.name(kind, thing, name.charAt(i)));
        }
    }

    /** Classes pwr 0 and sig 1, nets gnd 0 and clk 2, areas box 0, in1 1 and bay 2. */
    static RuleText board() {
        RuleText x = new RuleText();
        call(x, 0, 0, "pwr");
        call(x, 0, 1, "sig");
        call(x, 1, 0, "gnd");
        call(x, 1, 2, "clk");
        call(x, 2, 0, "box");
        call(x, 2, 1, "in1");
        call(x, 2, 2, "bay");
        return x;
    }

    static RuleText board(String text, int answer) {
        RuleText x = board();
        reads(x, text, answer);
        return x;
    }

    /** Clears the text, tells a new one and reads it. */
    static void reads(RuleText x, String text, int answer) {
        x.clear();
        tell(x, text);
        same("read() of [" + text + "]", x.read(), answer);
    }

    static String written(RuleText x) {
        StringBuilder all = new StringBuilder();
        for (int i = 0; i < 20_000; i++) {
            int u = x.write(i);
            if (u == RuleText.NONE) {
                return all.toString();
            }
            all.append((char) u);
        }
        return "without end";
    }
}
