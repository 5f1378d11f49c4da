/**
 * The bounds that the promises 1 to 14 name, a test for each sentence: at the bound, one below it and one beyond it;
 * and for each call that is refused or throws, that it has changed nothing.
 */
public final class PromiseBoundsTest {
    private static final int[] FAR = {Integer.MIN_VALUE, Integer.MIN_VALUE + 1, Integer.MAX_VALUE - 1,
        Integer.MAX_VALUE};

    public static void main(String[] args) {
        newObject();
        unit();
        name();
        read();
        rule();
        value();
        rank();
        shape();
        never();
        clash();
        line();
        kinds();
        write();
        clear();
        Check.end();
    }

    interface Step {
        void on(Board x);
    }

    /** A board with names, shapes, rules, and a text that has grown since they were read. */
    private static Board busy() {
        Board x = new Board().name(0, 0, "a").name(1, 15, "m").name(2, 0, "p").name(2, 1, "q");
        x.shape(0, 0, 0, 9, 9).shape(1, 1, 1, 2, 2);
        return x.reads("via in q 1 nm;\nvia in p 2 nm;\nwaive any and net m;", 3).text("via in q 2 ");
    }

    /** What a board shows from now on: its answers, its text with an end that was missing, its names and shapes. */
    private static String future(Board x) {
        StringBuilder seen = new StringBuilder(x.all());
        seen.append("read ").append(x.call().read()).append('\n');
        x.text("nm;").reads(4).clear();
        x.name(0, 0, "b").name(1, 15, "b").name(2, 0, "b").name(2, 1, "b");
        seen.append(x.reads("gap between class ab and net mb in pb 1 nm;via in qb 1 nm;via in pb 1 nm;", 3).all());
        return seen.toString();
    }

    /** A twin board without the step has the same future as the one with it. */
    private static void changesNothing(String what, Step step) {
        Board x = busy();
        step.on(x);
        Check.same("all behind " + what, future(x), future(busy()));
    }

    private static void throwsAndChangesNothing(String what, Step step) {
        changesNothing(what, x -> Check.outOfBounds(what, () -> step.on(x)));
    }

    private static void newObject() {
        noTextAtFirst();
        noNamesAtFirst();
        noShapesAtFirst();
        noRulesAtFirst();
    }

    // No text
    private static void noTextAtFirst() {
        new Board().reads(0).reads(0);
        new Board().reads("test 1;", 1);
        new Board().clear().reads(0);
    }

    // no names
    private static void noNamesAtFirst() {
        String[] texts = {"via of class ", "via of net ", "via in "};
        for (String text : texts) {
            int word = text.equals("via in ") ? 2 : 3;
            new Board().reads(text, -1 - word);
            new Board().reads(text + "a 1 nm;", -1 - word);
            new Board().reads(text + "0 1 nm;", -1 - word);
        }
        // Each thing takes eight letters: none was there.
        for (int kind = 0; kind < 3; kind++) {
            Board x = new Board();
            for (int thing = 0; thing < 16; thing++) {
                x.name(kind, thing, "abcdefgh");
                Check.no("the ninth letter", x.call().name(kind, thing, 'i'));
            }
        }
    }

    // no shapes
    private static void noShapesAtFirst() {
        for (int area = 0; area < 16; area++) {
            int other = (area + 1) % 16;
            Board x = new Board().name(2, area, "p").name(2, other, "q").reads("via in q 1 nm;via in p 2 nm;", 2);
            x.never().clashes().shape(other, 0, 0, 0, 0).never().clashes();
            x.shape(area, 0, 0, 0, 0).never(0).clashes(0, 1);
        }
    }

    // no rules
    private static void noRulesAtFirst() {
        Board x = new Board().never().clashes().writes("");
        Check.same("kinds()", x.call().kinds(), 0);
        Check.outOfBounds("rule(0, 0)", () -> x.call().rule(0, 0));
        Check.outOfBounds("value(0, 0)", () -> x.call().value(0, 0));
        Check.outOfBounds("rank(0)", () -> x.call().rank(0));
        Check.outOfBounds("line(0)", () -> x.call().line(0));
        // A text that was not read makes no rules, nor does one with a wrong word.
        x.text("test 1;test").never().writes("");
        Check.outOfBounds("line(0)", () -> x.call().line(0));
        x.reads(-5).writes("");
        Check.outOfBounds("line(0)", () -> x.call().line(0));
    }

    private static void unit() {
        charactersOfTheText();
        refusedCharacters();
        threeThousand();
    }

    // False, refused, when it is not 10 or 32, a small letter, a digit, . or ;
    private static void charactersOfTheText() {
        int[] taken = {10, 32, '.', '0', '1', '8', '9', ';', 'a', 'b', 'y', 'z'};
        for (int u : taken) {
            Check.yes("unit(" + u + ")", new Board().call().unit(u));
        }
        int[] refused = {-1, 0, 1, 9, 11, 13, 31, 33, '-', '/', ':', '<', '@', 'A', 'Z', '_', '`', '{', 127, 128,
            255, 256};
        for (int u : refused) {
            Check.no("unit(" + u + ")", new Board().call().unit(u));
        }
        for (int u : FAR) {
            Check.no("unit(" + u + ")", new Board().call().unit(u));
        }
        // Beyond a char or a byte nothing wraps around to a character that is taken.
        for (int u : taken) {
            Check.no("unit(256 + " + u + ")", new Board().call().unit(256 + u));
            Check.no("unit(65536 + " + u + ")", new Board().call().unit(65536 + u));
            Check.no("unit(" + u + " - 65536)", new Board().call().unit(u - 65536));
            Check.no("unit(lowest + " + u + ")", new Board().call().unit(Integer.MIN_VALUE + u));
            Check.no("unit(-" + u + ")", new Board().call().unit(-u));
        }
    }

    private static void refusedCharacters() {
        int[] refused = {-1, 0, 9, 11, 31, 33, '/', ':', '<', 'A', '`', '{', 65536 + 'a', Integer.MAX_VALUE};
        for (int u : refused) {
            changesNothing("unit(" + u + ")", x -> Check.no("unit(" + u + ")", x.call().unit(u)));
        }
        // In the middle of a word a refused one does not part it.
        Board x = new Board().text("te");
        Check.no("unit(9)", x.call().unit(9));
        x.text("st 1");
        Check.no("unit(13)", x.call().unit(13));
        x.text("2;").reads(1).ends(0, 12, 12);
    }

    // or there are 3,000. (No 512 calls reach that: so this goes beyond what one object is promised for.)
    private static void threeThousand() {
        String end = "test 12;";
        Board x = new Board(20_000).text(" ".repeat(2_999 - end.length()) + end).reads(1);
        x.text("\n").reads(1).ends(0, 12, 12);
        int[] all = {10, 32, '.', '5', ';', 'a', 'A', -1};
        for (int u : all) {
            Check.no("unit(" + u + ") behind 3,000", x.call().unit(u));
        }
        x.reads(1).ends(0, 12, 12).writes("test of any 12 ;\n");
        x.clear().reads(0).text("\n".repeat(3_000 - end.length()) + end).reads(1);
        Check.same("line(0)", x.call().line(0), 3_000 - end.length());
        Check.no("unit(32) behind 3,000 more", x.call().unit(32));
        // A word that the bound cuts off ends there.
        x.clear().text(" ".repeat(2_994) + "test 1").reads(-3);
        Check.no("unit(;) behind 3,000", x.call().unit(';'));
        x.reads(-3).clear().text("a".repeat(3_000)).reads(-1);
        x.clear().text(";".repeat(3_000)).reads(-1).clear().text(" ".repeat(2_988)).reads("via of class", -1 - 3);
        x.writes("test of any 12 ;\n");
    }

    private static void name() {
        lettersOfAName();
        refusedLetters();
        eightLetters();
        kindsAndThings();
    }

    // False, refused, when it is no small letter or digit
    private static void lettersOfAName() {
        int[] taken = {'0', '1', '8', '9', 'a', 'b', 'y', 'z'};
        int[] refused = {-1, 0, 10, 32, '.', ';', '/', ':', '@', 'A', 'Z', '_', '`', '{', 127, 128, 255, 256};
        for (int kind = 0; kind < 3; kind++) {
            for (int u : taken) {
                Check.yes("name(.., " + u + ")", new Board().call().name(kind, 15, u));
                Check.no("name(.., 256 + " + u + ")", new Board().call().name(kind, 15, 256 + u));
                Check.no("name(.., 65536 + " + u + ")", new Board().call().name(kind, 15, 65536 + u));
                Check.no("name(.., " + u + " - 65536)", new Board().call().name(kind, 15, u - 65536));
                Check.no("name(.., -" + u + ")", new Board().call().name(kind, 15, -u));
            }
            for (int u : refused) {
                Check.no("name(.., " + u + ")", new Board().call().name(kind, 0, u));
            }
            for (int u : FAR) {
                Check.no("name(.., " + u + ")", new Board().call().name(kind, 0, u));
            }
        }
    }

    private static void refusedLetters() {
        int[] refused = {-1, 0, 10, 32, '.', ';', '/', ':', 'A', '`', '{', 65536 + 'a', Integer.MIN_VALUE};
        for (int u : refused) {
            changesNothing("name(0, 0, " + u + ")", x -> Check.no("name(0, 0, " + u + ")", x.call().name(0, 0, u)));
            changesNothing("name(1, 15, " + u + ")", x -> Check.no("name(1, 15, " + u + ")", x.call().name(1, 15, u)));
            changesNothing("name(2, 1, " + u + ")", x -> Check.no("name(2, 1, " + u + ")", x.call().name(2, 1, u)));
        }
        // A thing that had no name has none behind a refused letter, and takes eight still.
        Board x = new Board();
        Check.no("name(0, 4, A)", x.call().name(0, 4, 'A'));
        x.reads("via of class a 1 nm;", -4).name(0, 4, "abcdefgh");
        Check.no("name(0, 4, i)", x.call().name(0, 4, 'i'));
    }

    // or there are eight
    private static void eightLetters() {
        String[] head = {"via of class ", "via of net ", "via in "};
        for (int kind = 0; kind < 3; kind++) {
            for (int thing = 0; thing < 16; thing += 5) {
                Board x = new Board().name(kind, thing, "abcdefg").name(kind, thing, "8");
                int[] ninth = {'9', 'a', '0', 'z', 'A', '.'};
                for (int u : ninth) {
                    Check.no("the ninth letter", x.call().name(kind, thing, u));
                }
                x.reads(head[kind] + "abcdefg8 1 nm;", 1).part(0, kind == 2 ? 6 : 2, thing);
                x.writes(kind == 2 ? "via of any in abcdefg8 1 nm ;\n" : head[kind] + "abcdefg8 1 nm ;\n");
            }
        }
        // The ninth letter of one is not the first of the next, in its kind or the one behind.
        Board y = new Board().name(0, 14, "abcdefgh").name(0, 15, "abcdefgh");
        Check.no("name(0, 14, z)", y.call().name(0, 14, 'z'));
        Check.no("name(0, 15, z)", y.call().name(0, 15, 'z'));
        y.reads("via of class z 1 nm;", -4).clear().reads("via of net z 1 nm;", -4).clear();
        y.name(1, 0, "n").reads("via of net n 1 nm;", 1).writes("via of net n 1 nm ;\n");
    }

    // IndexOutOfBoundsException, when there is no such kind or thing.
    private static void kindsAndThings() {
        int[] noKinds = {-1, 3, 4, Integer.MIN_VALUE, Integer.MAX_VALUE};
        int[] noThings = {-1, 16, 17, Integer.MIN_VALUE, Integer.MAX_VALUE};
        for (int kind = 0; kind < 3; kind++) {
            new Board().name(kind, 0, "a").name(kind, 1, "a").name(kind, 14, "a").name(kind, 15, "a");
            int fine = kind;
            for (int thing : noThings) {
                throwsAndChangesNothing("name(" + kind + ", " + thing + ", b)", x -> x.call().name(fine, thing, 'b'));
                throwsAndChangesNothing("name(" + kind + ", " + thing + ", B)", x -> x.call().name(fine, thing, 'B'));
            }
        }
        for (int kind : noKinds) {
            throwsAndChangesNothing("name(" + kind + ", 0, b)", x -> x.call().name(kind, 0, 'b'));
            throwsAndChangesNothing("name(" + kind + ", 15, B)", x -> x.call().name(kind, 15, 'B'));
            throwsAndChangesNothing("name(" + kind + ", 16, b)", x -> x.call().name(kind, 16, 'b'));
        }
        // A pair that would fall on another thing's place, were it not looked at: 1 * 16 - 1 is class 15.
        throwsAndChangesNothing("name(1, -1, b)", x -> x.call().name(1, -1, 'b'));
        throwsAndChangesNothing("name(-1, 16, b)", x -> x.call().name(-1, 16, 'b'));
    }

    private static void read() {
        placeOfAllThatWere();
        howMany();
        numberOfTheWrongWord();
        moreMustFollow();
        allStaysBehindAWrongWord();
        theTextStays();
    }

    // its rules take the place of all that were
    private static void placeOfAllThatWere() {
        Board x = Board.of("via on top in p rank 9 1 to 2 nm;gap between class a and net n most 5 nm;test 1;", 3);
        // Twice, lest an old rule's place be used again with something left in it.
        x.clear().reads("ring 7 nm;", 1).reads(1).writes("ring of any 7 nm ;\n");
        int[] want = {11, -1, -1, -1, -1, 0, -1, 0};
        for (int what = 0; what < 8; what++) {
            x.part(0, what, want[what]);
        }
        x.ends(0, 7, 7);
        Check.outOfBounds("line(1)", () -> x.call().line(1));
        x.clear().reads(0).writes("");
        Check.outOfBounds("line(0)", () -> x.call().line(0));
        // From full to one, and to none.
        Board y = new Board().reads("test 1;".repeat(60), 60).clear().reads("test 2;", 1).ends(0, 2, 2);
        Check.outOfBounds("line(1)", () -> y.call().line(1));
        Check.outOfBounds("line(59)", () -> y.call().line(59));
        y.clear().reads(0);
        Check.outOfBounds("line(0)", () -> y.call().line(0));
    }

    // how many
    private static void howMany() {
        Board x = new Board().reads(0);
        for (int count = 1; count <= 50; count++) {
            x.reads("test 1;", count);
        }
        new Board().reads("test 1;".repeat(59), 59).reads("test 2;", 60).ends(59, 2, 2);
    }

    // With a WRONG word -1 minus its number, from 0
    private static void numberOfTheWrongWord() {
        Board.wrong("foo", 0);
        Board.of("foo", -1);
        Board.of("via foo", -2);
        Board.of("via 1 foo", -3);
        Board.of("via 1 nm foo", -4);
        Board.of("via 1 nm;foo", -5);
        Board.of("test 1;".repeat(59) + "foo", -178);
    }

    // or minus how many words there are, when more must follow
    private static void moreMustFollow() {
        Board.of("via", -2);
        Board.of("via ", -2);
        Board.of("via 1", -3);
        Board.of("via 1\n", -3);
        Board.of("via 1 nm", -4);
        Board.of("via 1 nm;", 1);
        Board.of("waive any and class a", -6);
        Board.of("via 1 nm;via", -6);
        Board.of("test 1;".repeat(59) + "test", -179);
        Board.of("test 1;".repeat(59) + "test 1", -180);
        breaksOff("gap between class a and net n on layer 3 in p rank 7 1 to 2 mm ;");
        breaksOff("turns of net m on inner in q rank 7 least 2 ;");
        breaksOff("waive class a and net n ;");
        // A word that is cut off is a wrong one, not one behind which more must follow.
        Board.of("vi", -1);
        Board.of("gap betwee", -2);
        // Where a sentence could go on or end, its end must still come.
        Board.of("turns 5", -3);
        Board.of("turns 5 to", -4);
        Board.of("turns 5 to 6", -5);
    }

    private static void breaksOff(String sentence) {
        String[] words = sentence.split(" ");
        StringBuilder begun = new StringBuilder();
        for (int i = 0; i < words.length - 1; i++) {
            begun.append(i == 0 ? "" : " ").append(words[i]);
            Board.of(begun.toString(), -1 - (i + 1));
            Board.of(begun + " \n", -1 - (i + 1));
        }
        Board.of(sentence, 1);
    }

    // all stays then
    private static void allStaysBehindAWrongWord() {
        String[] texts = {"foo", ";", "via", "via of class x 1 nm;", "via in x 1 nm;", "via on layer 0 1 nm;",
            "via on layer 33 1 nm;", "via rank 100 1 nm;", "via 0.5 nm;", "via 1000001 mm;", "turns 1000001;",
            "test 0.5;", "via 2 to 1 nm;", "turns 2 to 1;", "gap 9 nm;waive any and any;gap rank 7 8 nm;foo",
            "ring 9 nm;ring 8 nm"};
        for (String text : texts) {
            Board x = Board.of("\nvia on top in p rank 4 5 to 6 nm;test 2;", 2);
            String before = x.all();
            x.clear().text(text);
            int answer = x.call().read();
            Check.yes("a wrong word in [" + text + "]", answer < 0);
            Check.same("all behind [" + text + "]", x.all(), before);
            Check.same("read() of [" + text + "] once more", x.call().read(), answer);
        }
        // A wrong word behind 60 rules, too.
        Board y = new Board().reads("via 1 nm;", 1).clear().reads("test 1;".repeat(60) + ";", -181);
        y.writes("via of any 1 nm ;\n").ends(0, 1, 1);
        Check.outOfBounds("line(1)", () -> y.call().line(1));
    }

    // (The text stays.)
    private static void theTextStays() {
        Board x = new Board().reads("via 1", -3).reads(-3).reads(" nm", -4).reads(";", 1).reads(1);
        x.reads("via 2 nm;", 2).reads("x", -9).reads(-9);
        x.ends(0, 1, 1).ends(1, 2, 2);
        // What follows right behind the text goes on with its last word.
        new Board().reads("test 1", -3).reads("2;", 1).ends(0, 12, 12);
        // A text that was wrong is right when the name is there, and the other way round.
        Board y = new Board().reads("via of class ab 1 nm;", -4).name(0, 3, "a").reads(-4).name(0, 3, "b").reads(1);
        y.name(0, 3, "c").reads(-4).part(0, 2, 3).writes("via of class abc 1 nm ;\n");
    }

    /** No such rules: one beyond the last of a board with some, and far off. */
    private static int[] noRules(int count) {
        return new int[] {-1, -2, count, count + 1, 59, 60, Integer.MIN_VALUE, Integer.MAX_VALUE};
    }

    private static void rule() {
        partsOfRules();
        noSuchRuleOrPart();
    }

    // Of a rule: its KIND (what 0) .. its RANK (7)
    private static void partsOfRules() {
        Board x = Board.of("gap between class a and net m on layer 32 in q rank 99 1 nm;via on layer 1 1 nm;"
            + "gap between any and class b 1 nm;waive net n and any;via of class b 1 nm;ring on inner in p 1 nm;", 6);
        int[][] want = {{0, 0, 0, 1, 15, 35, 15, 99}, {2, -1, -1, -1, -1, 4, -1, 0}, {0, -1, -1, 0, 15, 0, -1, 0},
            {12, 1, 0, -1, -1, 0, -1, 0}, {2, 0, 15, -1, -1, 0, -1, 0}, {11, -1, -1, -1, -1, 3, 0, 0}};
        for (int k = 0; k < want.length; k++) {
            for (int what = 0; what < 8; what++) {
                x.part(k, what, want[k][what]);
            }
        }
        new Board().reads("test 1;".repeat(60), 60).part(0, 0, 9).part(59, 0, 9).part(59, 7, 0);
    }

    // IndexOutOfBoundsException, when there is no such rule, or what.
    private static void noSuchRuleOrPart() {
        for (int k : noRules(3)) {
            throwsAndChangesNothing("rule(" + k + ", 0)", x -> x.call().rule(k, 0));
            throwsAndChangesNothing("rule(" + k + ", 7)", x -> x.call().rule(k, 7));
            throwsAndChangesNothing("rule(" + k + ", 8)", x -> x.call().rule(k, 8));
        }
        int[] none = {-1, 8, 9, Integer.MIN_VALUE, Integer.MAX_VALUE};
        for (int what : none) {
            for (int k = 0; k < 3; k++) {
                int fine = k;
                throwsAndChangesNothing("rule(" + k + ", " + what + ")", x -> x.call().rule(fine, what));
            }
        }
        Board full = new Board().reads("test 1;".repeat(60), 60);
        Check.outOfBounds("rule(60, 0)", () -> full.call().rule(60, 0));
        Check.outOfBounds("rule(59, 8)", () -> full.call().rule(59, 8));
    }

    private static void value() {
        endsOfAValue();
        noSuchRuleOrEnd();
    }

    // The low (end 0) or high (1) end of a rule's VALUE; NONE when there is no such end.
    private static void endsOfAValue() {
        Board.of("via 0 nm;via least 0 nm;via most 0 nm;via 0 to 1 nm;waive any and any;via least 1000000 mm;"
            + "via most 1000000 mm;test 1 to 1000000;", 8)
            .ends(0, 0, 0).ends(1, 0, -1).ends(2, -1, 0).ends(3, 0, 1).ends(4, -1, -1)
            .ends(5, 1_000_000_000_000L, -1).ends(6, -1, 1_000_000_000_000L).ends(7, 1, 1_000_000);
    }

    // IndexOutOfBoundsException, when there is no such rule, or end.
    private static void noSuchRuleOrEnd() {
        for (int k : noRules(3)) {
            throwsAndChangesNothing("value(" + k + ", 0)", x -> x.call().value(k, 0));
            throwsAndChangesNothing("value(" + k + ", 1)", x -> x.call().value(k, 1));
            throwsAndChangesNothing("value(" + k + ", 2)", x -> x.call().value(k, 2));
        }
        int[] none = {-1, 2, 3, Integer.MIN_VALUE, Integer.MAX_VALUE};
        for (int end : none) {
            throwsAndChangesNothing("value(0, " + end + ")", x -> x.call().value(0, end));
            throwsAndChangesNothing("value(2, " + end + ")", x -> x.call().value(2, end));
        }
        Board full = new Board().reads("test 1;".repeat(60), 60).ends(59, 1, 1);
        Check.outOfBounds("value(60, 0)", () -> full.call().value(60, 0));
        Check.outOfBounds("value(59, 2)", () -> full.call().value(59, 2));
    }

    private static void rank() {
        howManyAhead();
        noSuchRuleForRank();
    }

    // How many rules stand AHEAD of one: from none to all others.
    private static void howManyAhead() {
        Board one = new Board().reads("test 1;", 1);
        Check.same("rank(0) of one", one.call().rank(0), 0);
        Board full = new Board().reads("test 1;".repeat(60), 60);
        for (int k = 0; k < 60; k++) {
            Check.same("rank(" + k + ") of 60", full.call().rank(k), 59 - k);
        }
        // The first of the text ahead of all 59, as it alone is a waiver, or has the rank.
        Board waived = new Board().reads("waive any and any;" + "test 1;".repeat(59), 60);
        Check.same("rank(0), a waiver", waived.call().rank(0), 0);
        Check.same("rank(1)", waived.call().rank(1), 59);
        Check.same("rank(59)", waived.call().rank(59), 1);
        Board ranked = new Board().reads("test rank 1 1;" + "test 1;".repeat(59), 60);
        Check.same("rank(0), of rank 1", ranked.call().rank(0), 0);
        Check.same("rank(1)", ranked.call().rank(1), 59);
    }

    // IndexOutOfBoundsException, when there is none such.
    private static void noSuchRuleForRank() {
        for (int k : noRules(3)) {
            throwsAndChangesNothing("rank(" + k + ")", x -> x.call().rank(k));
        }
        Board full = new Board().reads("test 1;".repeat(60), 60);
        Check.outOfBounds("rank(60)", () -> full.call().rank(60));
    }

    private static void shape() {
        shapeBecomes();
        turnedShapes();
        noSuchArea();
    }

    // An area's shape becomes the rectangle from x0, y0 to x1, y1
    private static void shapeBecomes() {
        Board x = Board.of("via in q 1 nm;via in p 2 nm;", 2).shape(15, 4, 4, 6, 6).shape(0, 4, 4, 6, 6).never(0);
        x.shape(0, 5, 4, 6, 6).never().shape(0, 4, 5, 6, 6).never().shape(0, 4, 4, 5, 6).never();
        x.shape(0, 4, 4, 6, 5).never().shape(0, 3, 3, 7, 7).never(0).clashes();
        x.shape(15, 3, 3, 7, 7).never(0).clashes(0, 1);
        // Each area has its own: those of the neighbours do not count.
        Board y = new Board().name(2, 7, "p").name(2, 8, "q").reads("via in q 1 nm;via in p 2 nm;", 2);
        y.shape(6, 0, 0, 9, 9).shape(9, 0, 0, 9, 9).never().shape(7, 0, 0, 9, 9).never().shape(8, 0, 0, 9, 9).never(0);
        // A shape may be told ahead of the name and of the rules, and stays behind read().
        Board z = new Board().shape(0, 0, 0, 9, 9).shape(15, 1, 1, 2, 2).name(2, 0, "p").name(2, 15, "q");
        z.reads("via in q 1 nm;via in p 2 nm;", 2).never(0).reads(2).never(0);
    }

    // false, changing nothing, when it would be turned (x0 above x1, or y0 above y1)
    private static void turnedShapes() {
        long low = Long.MIN_VALUE;
        long high = Long.MAX_VALUE;
        long[][] fine = {{5, 0, 5, 0}, {5, 0, 6, 0}, {5, 0, 5, 1}, {low, low, high, high}, {low, low, low, low},
            {high, high, high, high}, {-1, -1, 0, 0}};
        for (long[] s : fine) {
            for (int area = 0; area < 16; area++) {
                new Board().shape(area, s[0], s[1], s[2], s[3]);
            }
        }
        long[][] turned = {{5, 0, 4, 0}, {0, 5, 0, 4}, {5, 5, 4, 4}, {high, 0, low, 0}, {0, high, 0, low},
            {0, 0, -1, 0}, {0, 0, 0, -1}, {low + 1, 0, low, 0}, {0, high, 0, high - 1}, {high, high, low, low}};
        for (long[] s : turned) {
            for (int area = 0; area < 2; area++) {
                int told = area;
                changesNothing("a turned shape", x -> Check.no("turned", x.call().shape(told, s[0], s[1], s[2], s[3])));
            }
            // An area without a shape has none behind it: not even one that would hold the other.
            Board x = Board.of("via in q 1 nm;via in p 2 nm;", 2).shape(15, 0, 0, 0, 0);
            Check.no("turned", x.call().shape(0, s[0], s[1], s[2], s[3]));
            x.never();
            Board y = Board.of("via in q 1 nm;via in p 2 nm;", 2).shape(0, 0, 0, 0, 0);
            Check.no("turned", y.call().shape(15, s[0], s[1], s[2], s[3]));
            y.never();
        }
    }

    // IndexOutOfBoundsException, when there is no such area.
    private static void noSuchArea() {
        int[] none = {-1, 16, 17, Integer.MIN_VALUE, Integer.MAX_VALUE};
        for (int area : none) {
            throwsAndChangesNothing("shape(" + area + ", ..)", x -> x.call().shape(area, 0, 0, 1, 1));
            throwsAndChangesNothing("shape(" + area + ", turned)", x -> x.call().shape(area, 1, 1, 0, 0));
        }
    }

    // The k-th rule, from 0, that can NEVER win; NONE, when there are not so many (or k is below 0).
    private static void never() {
        new Board().never();
        Board.of("test 1;", 1).never();
        Board x = Board.of("test 1;via 1 nm;test 1;via on top 1 nm;test 1;", 5).never(0, 2);
        int[] none = {-1, -2, 2, 3, 5, 59, 60, Integer.MIN_VALUE, Integer.MAX_VALUE};
        for (int k : none) {
            Check.same("never(" + k + ")", x.call().never(k), -1);
            changesNothing("never(" + k + ")", y -> y.call().never(k));
        }
        Board full = new Board().reads("test 1;".repeat(60), 60);
        Check.same("never(0) of 60", full.call().never(0), 0);
        Check.same("never(58) of 60", full.call().never(58), 58);
        Check.same("never(59) of 60", full.call().never(59), -1);
        Check.same("never(-1) of 60", full.call().never(-1), -1);
        Board behind = new Board().reads("test rank 9 1;" + "test 1;".repeat(59), 60);
        Check.same("never(0) behind a ranked one", behind.call().never(0), 1);
        Check.same("never(58) behind a ranked one", behind.call().never(58), 59);
        Check.same("never(59) behind a ranked one", behind.call().never(59), -1);
    }

    private static void clash() {
        orderOfClashes();
        noSuchClash();
        noSuchWhich();
    }

    // Of the k-th two rules that CLASH, by the lower one, then by the other one, the lower (which 0), the other (1)
    private static void orderOfClashes() {
        new Board().clashes();
        Board.of("test 1;", 1).clashes();
        Board.of("test 1;test 2;", 2).clashes(0, 1);
        Board.of("test 1;test 2;test 3;", 3).clashes(0, 1, 0, 2, 1, 2);
        Board.of("test 1;via 1 nm;test 2;via 2 nm;test 1;", 5).clashes(0, 2, 1, 3, 2, 4);
        Board full = new Board().reads("test 1;test 2;".repeat(30), 60);
        int[][] want = {{0, 0, 1}, {29, 0, 59}, {30, 1, 2}, {58, 1, 58}, {59, 2, 3}, {898, 57, 58}, {899, 58, 59},
            {900, -1, -1}};
        for (int[] w : want) {
            Check.same("clash(" + w[0] + ", 0) of 60", full.call().clash(w[0], 0), w[1]);
            Check.same("clash(" + w[0] + ", 1) of 60", full.call().clash(w[0], 1), w[2]);
        }
        // No two of 50 values are the same: all pairs clash.
        StringBuilder text = new StringBuilder();
        for (int i = 0; i < 50; i++) {
            text.append("test ").append(i).append(';');
        }
        Board all = new Board().reads(text.toString(), 50);
        Check.same("clash(1224, 0) of 50", all.call().clash(1_224, 0), 48);
        Check.same("clash(1224, 1) of 50", all.call().clash(1_224, 1), 49);
        Check.same("clash(1225, 0) of 50", all.call().clash(1_225, 0), -1);
    }

    // NONE, when there are not so many (or k is below 0).
    private static void noSuchClash() {
        int[] none = {-1, -2, 1, 2, Integer.MIN_VALUE, Integer.MAX_VALUE};
        Board x = Board.of("test 1;test 2;", 2);
        for (int k : none) {
            for (int which = 0; which < 2; which++) {
                int fine = which;
                Check.same("clash(" + k + ", " + which + ")", x.call().clash(k, which), -1);
                changesNothing("clash(" + k + ", " + which + ")", y -> y.call().clash(k, fine));
            }
        }
    }

    // IndexOutOfBoundsException, for another which.
    private static void noSuchWhich() {
        int[] none = {-1, 2, 3, Integer.MIN_VALUE, Integer.MAX_VALUE};
        int[] ks = {-1, 0, 1, Integer.MIN_VALUE, Integer.MAX_VALUE};
        for (int which : none) {
            for (int k : ks) {
                throwsAndChangesNothing("clash(" + k + ", " + which + ")", x -> x.call().clash(k, which));
            }
            Board empty = new Board();
            Check.outOfBounds("clash(0, " + which + ") of none", () -> empty.call().clash(0, which));
        }
    }

    private static void line() {
        linesFromZero();
        noSuchRuleForLine();
    }

    private static void lines(String text, int... want) {
        Board x = Board.of(text, want.length);
        for (int k = 0; k < want.length; k++) {
            Check.same("line(" + k + ") of [" + text + "]", x.call().line(k), want[k]);
        }
    }

    // In which line of the text, from 0, a rule's first word stood.
    private static void linesFromZero() {
        lines("test 1;", 0);
        lines("test 1;\n", 0);
        lines("\ntest 1;", 1);
        lines("\n\n \n test 1;", 3);
        lines("test 1;test 1;", 0, 0);
        lines("test 1;\ntest 1;", 0, 1);
        lines("test 1\n;test 1;", 0, 1);
        lines("test\n1\n;\n\ntest\n1;", 0, 4);
        lines("\n".repeat(400) + "test 1;", 400);
        // "Stood": the text may have changed since, be it taken away or grown.
        Board x = Board.of("\ntest 1;", 1).clear();
        Check.same("line(0) behind clear()", x.call().line(0), 1);
        x.text("\n\n\ntest 1;foo").reads(-4);
        Check.same("line(0) behind a wrong word", x.call().line(0), 1);
        x.clear().reads("\n\n\ntest 1;", 1);
        Check.same("line(0) of the new text", x.call().line(0), 3);
        x.reads(1);
        Check.same("line(0) read once more", x.call().line(0), 3);
    }

    // IndexOutOfBoundsException, when there is none such.
    private static void noSuchRuleForLine() {
        for (int k : noRules(3)) {
            throwsAndChangesNothing("line(" + k + ")", x -> x.call().line(k));
        }
        Board full = new Board().reads("test 1;".repeat(60), 60);
        Check.same("line(59)", full.call().line(59), 0);
        Check.outOfBounds("line(60)", () -> full.call().line(60));
    }

    // Of how many KINDS there are rules: from none to all 13.
    private static void kinds() {
        Check.same("kinds() of none", new Board().call().kinds(), 0);
        Check.same("kinds() of one", Board.of("gap 1 nm;", 1).call().kinds(), 1);
        Check.same("kinds() of one, twice", Board.of("gap 1 nm;gap 2 nm;", 2).call().kinds(), 1);
        Check.same("kinds() of a waiver", Board.of("waive any and any;", 1).call().kinds(), 1);
        Check.same("kinds() of the first and last", Board.of("ring 1 nm;gap 2 nm;", 2).call().kinds(), 2);
        String twelve = "gap 1 nm;width 1 nm;via 1 nm;length 1 nm;skew 1 nm;turns 1;height 1 nm;mask 1 nm;silk 1 nm;"
            + "test 1;plane 1 nm;ring 1 nm;";
        Check.same("kinds() of twelve", Board.of(twelve, 12).call().kinds(), 12);
        Board all = Board.of(twelve + "waive any and any;" + twelve, 25);
        Check.same("kinds() of all", all.call().kinds(), 13);
        all.clear().reads(0);
        Check.same("kinds() of none then", all.call().kinds(), 0);
        Check.same("kinds() of 60", new Board().reads("test 1;".repeat(60), 60).call().kinds(), 1);
    }

    private static void write() {
        fromTheFirstToTheLast();
        namesAsTheyAreNow();
        belowZero();
    }

    // The i-th character, from 0, of all rules WRITTEN; NONE behind the last one.
    private static void fromTheFirstToTheLast() {
        Check.same("write(0) of none", new Board().call().write(0), -1);
        String want = "test of any 1 ;\n";
        Board x = new Board().reads("test 1;", 1);
        for (int i = 0; i < want.length(); i++) {
            Check.same("write(" + i + ")", x.call().write(i), want.charAt(i));
        }
        int[] behind = {16, 17, 3_000, Integer.MAX_VALUE - 1, Integer.MAX_VALUE};
        for (int i : behind) {
            Check.same("write(" + i + ")", x.call().write(i), -1);
        }
        Board full = new Board().reads("test 1;".repeat(60), 60);
        Check.same("write(958) of 60", full.call().write(958), ';');
        Check.same("write(959) of 60", full.call().write(959), '\n');
        Check.same("write(960) of 60", full.call().write(960), -1);
        Check.same("write(0) of 60", full.call().write(0), 't');
        full.clear().reads(0);
        Check.same("write(0) of none then", full.call().write(0), -1);
    }

    // with the NAMES as they are now
    private static void namesAsTheyAreNow() {
        Board x = new Board().name(0, 0, "a").name(1, 15, "n").name(2, 15, "p");
        x.reads("gap between class a and net n in p 1 nm;", 1).writes("gap between class a and net n in p 1 nm ;\n");
        x.name(0, 0, "bcdefg8").writes("gap between class abcdefg8 and net n in p 1 nm ;\n");
        Check.no("the ninth letter", x.call().name(0, 0, '9'));
        x.name(1, 15, "2").name(2, 15, "3").writes("gap between class abcdefg8 and net n2 in p3 1 nm ;\n");
        // A thing stays a rule's own when a lower one gets its name.
        x.name(2, 0, "p3").writes("gap between class abcdefg8 and net n2 in p3 1 nm ;\n").part(0, 6, 15);
        Check.same("write(50)", x.call().write(50), '\n');
        Check.same("write(51)", x.call().write(51), -1);
    }

    // IndexOutOfBoundsException, when i is below 0.
    private static void belowZero() {
        int[] none = {-1, -2, Integer.MIN_VALUE};
        for (int i : none) {
            throwsAndChangesNothing("write(" + i + ")", x -> x.call().write(i));
            Board empty = new Board();
            Check.outOfBounds("write(" + i + ") of none", () -> empty.call().write(i));
        }
    }

    private static void clear() {
        noTextBehindClear();
        restStaysBehindClear();
    }

    // There is no text.
    private static void noTextBehindClear() {
        new Board().clear().reads(0).clear().clear().reads(0);
        new Board().text("foo").clear().reads(0);
        new Board().text("test 1;").clear().reads("via 1 nm;", 1).part(0, 0, 2);
        // Lines and words are counted anew, and half a word is gone.
        Board x = new Board().text("\n\nte").clear().reads("st 1;", -1).clear().reads("\ntest 1;", 1);
        Check.same("line(0)", x.call().line(0), 1);
        x.clear().reads("test 1;foo", -4);
        // A text that is shorter than the one that was has none of its words behind it.
        x.clear().reads("test 2;test 2;test 2;", 3).clear().reads("test 3;", 1).ends(0, 3, 3);
        x.clear().reads("test", -2);
    }

    // (Rules, names and shapes stay.)
    private static void restStaysBehindClear() {
        Board x = busy();
        String before = x.all();
        x.clear();
        Check.same("all behind clear()", x.all(), before);
        x.reads("via in q 1 nm;via in p 1 nm;width of class a 1 nm;", 3).never(0);
        Board y = busy().clear().reads(0).writes("").never().clashes();
        y.reads("via in q 1 nm;via in p 1 nm;gap between class a and net m 1 nm;", 3).never(0);
    }
}
