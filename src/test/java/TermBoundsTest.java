/**
 * The bounds that the document's Terms name, a test for each sentence: at the bound, one below it and one beyond it.
 * What stands above a test is the sentence that it holds the class to.
 */
public final class TermBoundsTest {
    private static final String[] KINDS = {"gap", "width", "via", "length", "skew", "turns", "height", "mask",
        "silk", "test", "plane", "ring"};
    private static final String[] UNITS = {"nm", "um", "mm", "mil", "inch"};
    private static final long[] NM = {1L, 1_000L, 1_000_000L, 25_400L, 25_400_000L};

    public static void main(String[] args) {
        callsOfOneObject();
        wordsOfTheText();
        thingsAndNames();
        rulesOfTheText();
        placesOfRules();
        valuesOfRules();
        numbersOfValues();
        wrongWords();
        ahead();
        covers();
        neverAndClash();
        written();
        Check.end();
    }

    private static boolean counted(int kind) {
        return kind == 5 || kind == 9;
    }

    private static String times(int count, String s) {
        return s.repeat(count);
    }

    // An object is used for at most 512 calls after it has been made.
    private static void callsOfOneObject() {
        Board x = new Board().text(times(503, " ") + "test 7;").reads(1);
        Check.same("calls left", x.callsLeft(), 1);
        Check.same("value(0, 0), the 512th call", x.call().value(0, 0), 7);
        Board y = new Board().text(times(511, "\n"));
        Check.same("read(), the 512th call", y.call().read(), 0);
        Board z = new Board().text("test 1;").reads(1).clear().text(times(502, "a"));
        Check.same("read() of one long word, the 512th call", z.call().read(), -1);
    }

    private static void wordsOfTheText() {
        rowsOfLettersDigitsAndPoints();
        semicolonAlone();
        blanksBetween();
        noWords();
    }

    // WORDS are rows of letters (a .. z), digits and points.
    private static void rowsOfLettersDigitsAndPoints() {
        Board.wrong("a", 0);
        Board.wrong("z", 0);
        Board.wrong("0", 0);
        Board.wrong("9", 0);
        Board.wrong(".", 0);
        Board.wrong("via az.09 nm;", 1);
        Board.wrong("via 1. 5 nm;", 1);
        Board.wrong("via 1 .5 nm;", 2);
        Board.wrong("via 1nm;", 1);
        Board.wrong("via1 nm;", 0);
        Board.wrong(times(400, "a"), 0);
        Board.wrong("via " + times(400, "1"), 1);
        Board.wrong("via of class " + times(400, "a"), 3);
    }

    // and ; alone, even right behind or ahead of another word
    private static void semicolonAlone() {
        Board.wrong(";", 0);
        Board.wrong(";;", 0);
        Board.wrong("via;", 1);
        Board.wrong(";via 1 nm;", 0);
        Board.of("via 1 nm;", 1);
        Board.of("via 1 nm ;", 1);
        Board.of("via 1 nm;via 1 nm;", 2);
        Board.of("via 1 nm ;via 1 nm; via 1 nm ; via 1 nm;", 4);
        Board.wrong("via 1 nm;;", 4);
        Board.wrong("via 1 nm ; ;", 4);
        Board.wrong("via 1 nm;foo", 4);
        Board.wrong("via 1 nm;;foo", 4);
    }

    // spaces and line feeds stand between
    private static void blanksBetween() {
        Board.of("via 1 nm;", 1);
        Board.of("via\n1\nnm\n;", 1);
        Board.of("  via \n 1\n\n nm  ;  ", 1);
        Board.of("\n\nvia 1 nm;\n\n", 1);
        Board.wrong("v ia 1 nm;", 0);
        Board.wrong("v\nia 1 nm;", 0);
        Board.wrong("via 1 n m;", 2);
    }

    private static void noWords() {
        new Board().reads("", 0);
        new Board().reads(" ", 0);
        new Board().reads("\n", 0);
        new Board().reads(" \n \n", 0);
        new Board().reads(times(500, " "), 0);
    }

    private static void thingsAndNames() {
        sixteenOfEachKind();
        oneToEightLetters();
        smallLettersAndDigits();
        lowestOneHasTheName();
    }

    // THINGS are classes (kind 0), nets (1) and areas (2), 0 .. 15 of each
    private static void sixteenOfEachKind() {
        String[] head = {"via of class ", "via of net ", "via in "};
        for (int kind = 0; kind < 3; kind++) {
            for (int thing = 0; thing < 16; thing++) {
                Board x = new Board().name(kind, thing, "x").reads(head[kind] + "x 1 nm;", 1);
                x.part(0, 1, kind == 2 ? -1 : kind).part(0, 2, kind == 2 ? -1 : thing);
                x.part(0, 6, kind == 2 ? thing : -1);
            }
            for (int other = 0; other < 3; other++) {
                int answer = other == kind ? 1 : other == 2 ? -3 : -4;
                new Board().name(kind, 15, "x").reads(head[other] + "x 1 nm;", answer);
            }
        }
        // All of a kind at once: none is taken for its neighbour.
        for (int kind = 0; kind < 3; kind++) {
            Board x = new Board();
            StringBuilder text = new StringBuilder();
            for (int thing = 0; thing < 16; thing++) {
                x.name(kind, thing, "" + (char) ('a' + thing));
                text.append(head[kind]).append((char) ('a' + thing)).append(" 1 nm;");
            }
            x.reads(text.toString(), 16);
            for (int thing = 0; thing < 16; thing++) {
                x.part(thing, kind == 2 ? 6 : 2, thing);
            }
        }
    }

    // with NAMES of one to eight small letters or digits
    private static void oneToEightLetters() {
        String[] head = {"via of class ", "via of net ", "via in "};
        for (int kind = 0; kind < 3; kind++) {
            int asWrong = kind == 2 ? -3 : -4;
            Board x = new Board();
            x.reads(head[kind], asWrong).clear();
            x.reads(head[kind] + "a 1 nm;", asWrong).clear();
            x.name(kind, 7, "a").reads(head[kind] + "a 1 nm;", 1).clear();
            x.name(kind, 7, "bcdefg").reads(head[kind] + "abcdefg 1 nm;", 1).clear();
            x.reads(head[kind] + "abcdefgh 1 nm;", asWrong).clear();
            x.name(kind, 7, "h").reads(head[kind] + "abcdefgh 1 nm;", 1).clear();
            x.reads(head[kind] + "abcdefg 1 nm;", asWrong).clear();
            x.reads(head[kind] + "abcdefghi 1 nm;", asWrong).clear();
            x.reads(head[kind] + "abcdefgi 1 nm;", asWrong).clear();
            x.reads(head[kind] + "bbcdefgh 1 nm;", asWrong);
        }
    }

    private static void smallLettersAndDigits() {
        String[] names = {"a", "z", "0", "9", "az09", "class", "any", "12345678"};
        for (String name : names) {
            new Board().name(0, 3, name).reads("via of class " + name + " 1 nm;", 1).part(0, 2, 3);
        }
        // A point is of a word, but not of a name.
        Board.wrong("via of class a. 1 nm;", 3);
        Board.wrong("via of class .a 1 nm;", 3);
        Board.wrong("via of class . 1 nm;", 3);
        Board.wrong("via of class ; 1 nm;", 3);
    }

    // a name that several of a kind have is the lowest one's
    private static void lowestOneHasTheName() {
        Board x = new Board().name(0, 15, "x").reads("via of class x in x 1 nm;", -6);
        x.name(2, 15, "x").reads(1).part(0, 2, 15).part(0, 6, 15);
        x.name(0, 14, "x").name(2, 1, "x").reads(1).part(0, 2, 14).part(0, 6, 1);
        x.name(0, 0, "x").name(2, 0, "x").reads(1).part(0, 2, 0).part(0, 6, 0);
        x.name(0, 0, "y").name(2, 0, "y").reads(1).part(0, 2, 14).part(0, 6, 1);
        // Lowest of its kind: a lower net does not take a class's name.
        x.name(1, 0, "x").reads(1).part(0, 1, 0).part(0, 2, 14);
    }

    private static void rulesOfTheText() {
        atMostSixty();
        numberedFromZero();
        kindsOfRules();
        scopeOrNothing();
        anyIsNoName();
    }

    // RULES, at most 60
    private static void atMostSixty() {
        new Board().reads(times(59, "test 1;"), 59);
        new Board().reads(times(60, "test 1;"), 60);
        new Board().reads(times(60, "test 1;") + " \n ", 60);
        new Board().reads(times(61, "test 1;"), -1 - 180);
        new Board().reads(times(62, "test 1;"), -1 - 180);
        // The answer for a text of 60 is a count, for one of 61 a wrong word: the old rules stay.
        Board x = new Board().reads("via 3 nm;", 1).clear().reads(times(61, "test 1;"), -1 - 180);
        x.part(0, 0, 2).ends(0, 3, 3);
        Check.outOfBounds("line(1)", () -> x.call().line(1));
        Board y = new Board().reads(times(60, "test 1;"), 60).reads("test 1;", -1 - 180);
        y.part(59, 0, 9);
        Check.outOfBounds("line(60)", () -> y.call().line(60));
    }

    // numbered from 0 in the order of the text
    private static void numberedFromZero() {
        Board x = new Board().reads("via 5 nm;gap 6 nm;ring 7 nm;", 3);
        x.part(0, 0, 2).part(1, 0, 0).part(2, 0, 11).ends(0, 5, 5).ends(1, 6, 6).ends(2, 7, 7);
        StringBuilder text = new StringBuilder();
        for (int i = 0; i < 60; i++) {
            text.append("test ").append(i % 10).append(';');
        }
        Board y = new Board().reads(text.toString(), 60);
        for (int i = 0; i < 60; i++) {
            Check.same("value(" + i + ", 0)", y.call().value(i, 0), i % 10);
        }
    }

    // KIND: 0 gap, .. 11 ring; a WAIVER is of kind 12.
    private static void kindsOfRules() {
        for (int kind = 0; kind < 12; kind++) {
            Board.of(KINDS[kind] + (counted(kind) ? " 1;" : " 1 nm;"), 1).part(0, 0, kind);
            Board.wrong(KINDS[kind] + "s 1", 0);
            Board.wrong(KINDS[kind].substring(1) + " 1", 0);
            Board.wrong(KINDS[kind].substring(0, KINDS[kind].length() - 1) + " 1", 0);
        }
        Board.of("waive any and any;", 1).part(0, 0, 12);
        Board.wrong("waiver any and any;", 0);
        Board.wrong("12 1 nm;", 0);
    }

    // SCOPE, of gap: between THING and THING; of others: of THING; or nothing, which is any (of gap both).
    private static void scopeOrNothing() {
        for (int kind = 0; kind < 12; kind++) {
            String tail = counted(kind) ? " 1;" : " 1 nm;";
            String scope = kind == 0 ? " between any and any" : " of any";
            Board x = Board.of(KINDS[kind] + tail + KINDS[kind] + scope + tail, 2);
            for (int what = 1; what <= 4; what++) {
                x.part(0, what, -1).part(1, what, -1);
            }
            Board.wrong(KINDS[kind] + (kind == 0 ? " of any" : " between any and any") + tail, 1);
            Board.wrong(KINDS[kind] + scope + scope + tail, kind == 0 ? 5 : 3);
        }
        Board.of("gap between class a and net m 1 nm;", 1).part(0, 1, 0).part(0, 2, 0).part(0, 3, 1).part(0, 4, 15);
        Board.of("gap between any and class b 1 nm;", 1).part(0, 1, -1).part(0, 2, -1).part(0, 3, 0).part(0, 4, 15);
        Board.of("via of net n 1 nm;", 1).part(0, 1, 1).part(0, 2, 0).part(0, 3, -1).part(0, 4, -1);
        Board.wrong("gap between class a 1 nm;", 4);
        Board.wrong("via of class a and any 1 nm;", 4);
        Board.wrong("waive 1 nm;", 1);
        Board.wrong("waive any;", 2);
        Board.wrong("waive any and any and any;", 4);
    }

    // THING: any, or class NAME, or net NAME.
    private static void anyIsNoName() {
        Board.wrong("via of class any 1 nm;", 3);
        Board.wrong("via of area p 1 nm;", 2);
        Board.wrong("via of a 1 nm;", 2);
        Board.wrong("via of any a 1 nm;", 3);
        new Board().name(0, 2, "any").reads("via of class any 1 nm;", 1).part(0, 1, 0).part(0, 2, 2);
    }

    private static void placesOfRules() {
        layerFromOneTo32();
        layerOrNothing();
        areaOrNothing();
        rankFromZeroTo99();
        oneOrTwoDigits();
    }

    // LAYER: .. on layer N (1 .. 32)
    private static void layerFromOneTo32() {
        int[] fine = {1, 2, 9, 10, 31, 32};
        for (int n : fine) {
            Board.of("via on layer " + n + " 1 nm;", 1).part(0, 5, 3 + n);
        }
        Board.wrong("via on layer 0 1 nm;", 3);
        Board.wrong("via on layer 00 1 nm;", 3);
        Board.wrong("via on layer 33 1 nm;", 3);
        Board.wrong("via on layer 99 1 nm;", 3);
        // Asked when it is read: nothing need come behind it.
        Board.wrong("via on layer 33", 3);
        Board.wrong("via on layer 32", 4);
    }

    // LAYER: on top, on bottom, on inner, or .. or nothing.
    private static void layerOrNothing() {
        Board.of("via 1 nm;via on top 1 nm;via on bottom 1 nm;via on inner 1 nm;", 4)
            .part(0, 5, 0).part(1, 5, 1).part(2, 5, 2).part(3, 5, 3);
        Board.wrong("via on 1 nm;", 2);
        Board.wrong("via on top bottom 1 nm;", 3);
        Board.wrong("via on top on top 1 nm;", 3);
        Board.wrong("via top 1 nm;", 1);
        Board.wrong("waive any and any on top;", 4);
    }

    // AREA: in NAME, or nothing.
    private static void areaOrNothing() {
        Board.of("via 1 nm;via in p 1 nm;via in q 1 nm;", 3).part(0, 6, -1).part(1, 6, 0).part(2, 6, 15);
        Board.wrong("via in 1 nm;", 2);
        Board.wrong("via in p p 1 nm;", 3);
        Board.wrong("via in p in q 1 nm;", 3);
        Board.wrong("via in p on top 1 nm;", 3);
        Board.wrong("waive any and any in p;", 4);
    }

    // RANK: rank N (0 .. 99), or nothing, which is 0.
    private static void rankFromZeroTo99() {
        int[] fine = {0, 1, 9, 10, 98, 99};
        for (int n : fine) {
            Board.of("via rank " + n + " 1 nm;", 1).part(0, 7, n);
        }
        Board.of("via 1 nm;waive any and any;", 2).part(0, 7, 0).part(1, 7, 0);
        Board.wrong("via rank 100 1 nm;", 2);
        Board.wrong("via rank 100", 2);
        Board.wrong("via rank 99", 3);
        Board.wrong("via rank 1 rank 1 1 nm;", 3);
        Board.wrong("via rank 1 in p 1 nm;", 3);
        Board.wrong("waive any and any rank 1;", 4);
    }

    // N of layer and rank: one or two digits.
    private static void oneOrTwoDigits() {
        Board.of("via on layer 7 rank 7 1 nm;via on layer 07 rank 07 1 nm;via rank 00 1 nm;", 3)
            .part(0, 5, 10).part(0, 7, 7).part(1, 5, 10).part(1, 7, 7).part(2, 7, 0);
        String[] none = {"", "007", "001", "000", "1.", "1.0", ".1", ".", "a", "1a", "a1"};
        for (String n : none) {
            // Without digits the next word stands in their place.
            Board.wrong("via on layer " + n + " nm;", 3);
            Board.wrong("via rank " + n + " nm;", 2);
        }
    }

    private static void valuesOfRules() {
        endsOfValues();
        lowNotAboveHigh();
        unitsInNm();
        noUnitForTurnsAndTest();
    }

    // VALUE: least N UNIT; most N UNIT; N UNIT, both ends the same; N to N UNIT
    private static void endsOfValues() {
        Board.of("via least 5 nm;via most 5 nm;via 5 nm;via 5 to 6 nm;test least 0;test most 0;test 0;test 0 to 1;", 8)
            .ends(0, 5, -1).ends(1, -1, 5).ends(2, 5, 5).ends(3, 5, 6)
            .ends(4, 0, -1).ends(5, -1, 0).ends(6, 0, 0).ends(7, 0, 1);
        Board.wrong("via nm;", 1);
        Board.wrong("via ;", 1);
        Board.wrong("via least nm;", 2);
        Board.wrong("via least 5 to 6 nm;", 3);
        Board.wrong("via most 5 to 6 nm;", 3);
        Board.wrong("via least most 5 nm;", 2);
        Board.wrong("via 5 to 6 to 7 nm;", 4);
        Board.wrong("via to 6 nm;", 1);
        Board.wrong("via 5 to nm;", 3);
        Board.wrong("via 5 to;", 3);
        Board.wrong("turns 5 to;", 3);
        Board.wrong("turns ;", 1);
        Board.wrong("via 5 nm to 6 nm;", 3);
    }

    // N to N UNIT, the low end not above the high one
    private static void lowNotAboveHigh() {
        for (String unit : UNITS) {
            Board.of("via 5 to 6 " + unit + ";", 1);
            Board.of("via 5 to 5 " + unit + ";", 1);
            Board.of("via 5 to 5.0 " + unit + ";", 1);
            Board.of("via 5.000 to 05 " + unit + ";", 1);
            Board.wrong("via 5 to 4 " + unit + ";", 3);
        }
        Board.of("via 0 to 0 nm;", 1).ends(0, 0, 0);
        Board.of("via 4.999999 to 5 mm;", 1).ends(0, 4_999_999, 5_000_000);
        Board.wrong("via 5 to 4.999999 mm;", 3);
        Board.wrong("via 1000000 to 999999.999999 mm;", 3);
        Board.of("via 999999.999999 to 1000000 mm;", 1).ends(0, 999_999_999_999L, 1_000_000_000_000L);
        Board.of("turns 5 to 6;turns 5 to 5;turns 5.0 to 5;", 3);
        Board.wrong("turns 5 to 4;", 3);
        Board.wrong("turns 1000000 to 999999;", 3);
        Board.of("turns 999999 to 1000000;", 1).ends(0, 999_999, 1_000_000);
        // As numbers, not as rows of digits.
        Board.of("via 9 to 10 nm;test 9 to 10;", 2);
        Board.wrong("via 10 to 9 nm;", 3);
        Board.of("via 0.9 to 0.11 um;", -4);
        Board.of("via 0.11 to 0.9 um;", 1).ends(0, 110, 900);
    }

    // UNIT: nm, um, mm, mil (25,400 nm), inch (25,400,000 nm)
    private static void unitsInNm() {
        for (int i = 0; i < UNITS.length; i++) {
            Board.of("via 0 " + UNITS[i] + ";via 1 " + UNITS[i] + ";via 2.0 " + UNITS[i] + ";", 3)
                .ends(0, 0, 0).ends(1, NM[i], NM[i]).ends(2, 2 * NM[i], 2 * NM[i]);
        }
        String[] none = {"m", "cm", "n", "nmm", "mils", "mi", "inc", "inches", "in", "1", ";", "nm.", "to nm"};
        for (String unit : none) {
            Board.wrong("via 1 " + unit, unit.startsWith("to") ? 3 : 2);
        }
        Board.wrong("via 1;", 2);
        Board.wrong("via 1 nm nm;", 3);
    }

    // turns and test have none, and whole N (5.0 is whole)
    private static void noUnitForTurnsAndTest() {
        String[] kinds = {"turns ", "test "};
        for (String kind : kinds) {
            Board.of(kind + "5;" + kind + "5.0;" + kind + "5.000000;", 3).ends(0, 5, 5).ends(1, 5, 5).ends(2, 5, 5);
            Board.wrong(kind + "5.000001;", 1);
            Board.wrong(kind + "4.999999;", 1);
            Board.wrong(kind + "5.1;", 1);
            Board.wrong(kind + "0.5;", 1);
            Board.wrong(kind + "least 5.5;", 2);
            Board.wrong(kind + "5 to 5.5;", 3);
            Board.wrong(kind + "5 nm;", 2);
            Board.wrong(kind + "5 to 6 nm;", 4);
        }
    }

    private static void numbersOfValues() {
        oneToNineDigits();
        oneToSixBehindThePoint();
        wholeNm();
        atMostTheLongestNm();
        atMostAMillionWithout();
    }

    // N: one to nine digits
    private static void oneToNineDigits() {
        String[] heads = {"via ", "turns "};
        for (String head : heads) {
            String tail = head.equals("via ") ? " nm;" : ";";
            Board.wrong(head + tail, 1);
            Board.of(head + "1" + tail, 1).ends(0, 1, 1);
            Board.of(head + "00000001" + tail, 1).ends(0, 1, 1);
            Board.of(head + "000000001" + tail, 1).ends(0, 1, 1);
            Board.wrong(head + "0000000001" + tail, 1);
            Board.wrong(head + ".5" + tail, 1);
            Board.wrong(head + ".0" + tail, 1);
            Board.of(head + "000000001.0" + tail, 1).ends(0, 1, 1);
            Board.wrong(head + "0000000001.0" + tail, 1);
        }
        Board.of("via 99999999 nm;", 1).ends(0, 99_999_999, 99_999_999);
        Board.of("via 999999999 nm;", 1).ends(0, 999_999_999, 999_999_999);
        Board.wrong("via 1000000000 nm;", 1);
        Board.wrong("via 4294967297 nm;", 1);
        Board.wrong("via 18446744073709551617 nm;", 1);
        // No N at all is wrong at once, whatever comes behind it.
        Board.wrong("via 1000000000", 1);
        Board.wrong("via 1 to 1000000000 foo", 3);
    }

    // behind them perhaps a point and one to six digits more
    private static void oneToSixBehindThePoint() {
        Board.of("via 1 mm;", 1).ends(0, 1_000_000, 1_000_000);
        Board.wrong("via 1. mm;", 1);
        Board.of("via 1.2 mm;", 1).ends(0, 1_200_000, 1_200_000);
        Board.of("via 1.23456 mm;", 1).ends(0, 1_234_560, 1_234_560);
        Board.of("via 1.234567 mm;", 1).ends(0, 1_234_567, 1_234_567);
        Board.wrong("via 1.2345678 mm;", 1);
        Board.wrong("via 1.0000000 mm;", 1);
        Board.of("via 1.000000 mm;", 1).ends(0, 1_000_000, 1_000_000);
        Board.of("via 0.000001 mm;", 1).ends(0, 1, 1);
        Board.wrong("via 1..2 mm;", 1);
        Board.wrong("via 1.2.3 mm;", 1);
        Board.wrong("via 1.2a mm;", 1);
        Board.wrong("turns 1.;", 1);
        Board.wrong("turns 1.0000000;", 1);
    }

    // with its UNIT a whole number of nm
    private static void wholeNm() {
        String[] whole = {"1.000000 nm", "0.001 um", "1.001 um", "0.000001 mm", "0.005 mil", "0.01 mil",
            "0.000005 inch", "0.00001 inch", "0.000000 nm"};
        long[] worth = {1, 1, 1_001, 1, 127, 254, 127, 254, 0};
        for (int i = 0; i < whole.length; i++) {
            Board.of("via " + whole[i] + ";", 1).ends(0, worth[i], worth[i]);
        }
        String[] not = {"0.000001 nm", "0.999999 nm", "1.000001 nm", "0.5 nm", "0.000999 um", "0.001001 um",
            "0.0005 um", "0.004999 mil", "0.005001 mil", "0.001 mil", "0.000004 inch", "0.000006 inch",
            "0.000001 inch"};
        for (String n : not) {
            Board.wrong("via " + n + ";", 1);
            Board.wrong("via least " + n + ";", 2);
            Board.wrong("via 0 to " + n + ";", 3);
        }
    }

    // 1,000,000,000,000 at most
    private static void atMostTheLongestNm() {
        long most = 1_000_000_000_000L;
        String[] fine = {"999999999 um", "999999999.999 um", "999999.999999 mm", "1000000 mm", "1000000.000000 mm",
            "39370078.735 mil", "39370078.74 mil", "39370.078735 inch", "39370.07874 inch"};
        long[] worth = {most - 1_000, most - 1, most - 1, most, most, most - 131, most - 4, most - 131, most - 4};
        for (int i = 0; i < fine.length; i++) {
            Board.of("via " + fine[i] + ";", 1).ends(0, worth[i], worth[i]);
            Board.of("via 0 to " + fine[i] + ";", 1).ends(0, 0, worth[i]);
        }
        String[] beyond = {"1000000.000001 mm", "1000001 mm", "999999999 mm", "39370078.745 mil", "39370079 mil",
            "999999999 mil", "39370.078745 inch", "39371 inch", "999999999 inch", "999999999.999995 inch"};
        for (String n : beyond) {
            Board.wrong("via " + n + ";", 1);
            Board.wrong("via most " + n + ";", 2);
            Board.wrong("via 0 to " + n + ";", 3);
        }
    }

    // (without, 1,000,000)
    private static void atMostAMillionWithout() {
        String[] kinds = {"turns ", "test "};
        for (String kind : kinds) {
            Board.of(kind + "0;" + kind + "999999;" + kind + "1000000;" + kind + "1000000.0;", 4)
                .ends(0, 0, 0).ends(1, 999_999, 999_999).ends(2, 1_000_000, 1_000_000).ends(3, 1_000_000, 1_000_000);
            Board.wrong(kind + "1000001;", 1);
            Board.wrong(kind + "1000000.000001;", 1);
            Board.wrong(kind + "999999999;", 1);
            Board.wrong(kind + "most 1000001;", 2);
            Board.wrong(kind + "0 to 1000001;", 3);
        }
    }

    private static void wrongWords() {
        noSuchSentenceGoesOn();
        nameThatNoThingHas();
        askedWhenTheUnitHasCome();
        askedWhenItIsRead();
        highEndBelowTheLow();
        firstOfSeveral();
        firstWordOfThe61st();
    }

    // The first WRONG word is that with which no such sentence goes on
    private static void noSuchSentenceGoesOn() {
        String[] gap = "gap between class a and net n on layer 3 in p rank 7 1 to 2 mm ;".split(" ");
        String[] waiver = "waive class a and net n ;".split(" ");
        String[] count = "turns of class a on top in p rank 7 least 2 ;".split(" ");
        String[][] sentences = {gap, waiver, count};
        for (String[] words : sentences) {
            StringBuilder begun = new StringBuilder();
            for (int i = 0; i < words.length; i++) {
                Board.wrong(begun + "foo", i);
                Board.wrong(begun + "foo " + words[i], i);
                if (i < words.length - 1) {
                    Board.wrong(begun + ";", i);
                }
                begun.append(words[i]).append(' ');
            }
            Board.of(begun.toString(), 1);
            Board.wrong(begun + "foo", words.length);
            Board.wrong(begun.toString() + begun + ";", 2 * words.length);
        }
    }

    // for a NAME that no such thing has .. that word
    private static void nameThatNoThingHas() {
        Board.wrong("via of class n 1 nm;", 3);
        Board.wrong("via of net a 1 nm;", 3);
        Board.wrong("via in a 1 nm;", 2);
        Board.wrong("gap between class a and class x 1 nm;", 6);
        Board.wrong("waive net x and class a;", 2);
        Board.wrong("waive class a and net x;", 5);
        // Nothing need come behind it.
        Board.wrong("via of class x", 3);
        Board.wrong("via of class a", 4);
        // A thing without a name has none, and the end of the text is no name.
        new Board().reads("via of class", -1 - 3);
        new Board().reads("via in", -1 - 2);
        new Board().reads("waive net", -1 - 2);
    }

    // N out of bounds or no whole nm (asked when its UNIT has come ..)
    private static void askedWhenTheUnitHasCome() {
        String[] numbers = {"0.0001", "1000001", "999999999.999999"};
        String[] units = {"um", "mm", "inch"};
        for (int i = 0; i < numbers.length; i++) {
            Board.wrong("via " + numbers[i], 2);
            Board.wrong("via " + numbers[i] + " foo", 2);
            Board.wrong("via " + numbers[i] + " ;", 2);
            Board.wrong("via " + numbers[i] + " " + units[i], 1);
            Board.wrong("via " + numbers[i] + " " + units[i] + " foo", 1);
            Board.wrong("via " + numbers[i] + " to", 3);
            Board.wrong("via " + numbers[i] + " to foo", 3);
            Board.wrong("via 0 to " + numbers[i] + " foo", 4);
            Board.wrong("via 0 to " + numbers[i] + " " + units[i], 3);
        }
        // The same N is fine with another unit.
        Board.of("via 0.0001 mm;via 1000001 um;", 2).ends(0, 100, 100).ends(1, 1_000_001_000, 1_000_001_000);
    }

    // (.. or, without one, when it is read)
    private static void askedWhenItIsRead() {
        String[] numbers = {"0.5", "1000001", "999999999.999999"};
        for (String n : numbers) {
            Board.wrong("turns " + n, 1);
            Board.wrong("turns " + n + " foo", 1);
            Board.wrong("turns " + n + " to foo", 1);
            Board.wrong("test most " + n, 2);
            Board.wrong("test 0 to " + n, 3);
            Board.wrong("test 0 to " + n + " foo", 3);
        }
        Board.wrong("turns 5", 2);
        Board.wrong("turns 1000000 foo", 2);
    }

    // for a high end below the low one, that word
    private static void highEndBelowTheLow() {
        Board.wrong("via 5 to 4 nm", 3);
        Board.wrong("via 5 to 4 nm;", 3);
        Board.wrong("via 5 to 4 nm foo", 3);
        Board.wrong("turns 5 to 4", 3);
        Board.wrong("turns 5 to 4 foo", 3);
        Board.wrong("turns 5 to 5 foo", 4);
        Board.wrong("via 5 to 5 nm foo", 5);
        // The ends are lengths only with their unit: till then, the word behind them is the wrong one.
        Board.wrong("via 5 to 4 foo", 4);
        Board.wrong("via 5 to 4", 4);
    }

    private static void firstOfSeveral() {
        Board.wrong("via 0.5 to 0.4 nm;", 1);
        Board.wrong("via 1000002 to 1000001 mm;", 1);
        Board.wrong("via 5 to 0.5 nm;", 3);
        Board.wrong("turns 0.5 to 0.4;", 1);
        Board.wrong("via of class x in x 0.5 nm;", 3);
        Board.wrong("via 1 nm;via of class x 1 nm;foo", 7);
        Board.wrong("foo via of class x", 0);
    }

    // for the 61st rule its first word
    private static void firstWordOfThe61st() {
        String sixty = times(60, "test 1;");
        String[] more = {"test 1;", "test", "test foo", "foo", ";", "1", "waive any and any;", "via of class x 1 nm;"};
        for (String behind : more) {
            new Board().reads(sixty + behind, -1 - 180);
        }
        new Board().reads(times(59, "test 1;") + "foo", -1 - 177);
        new Board().reads(times(59, "test 1;") + "test", -1 - 178);
        new Board().reads(times(59, "test 1;") + "test 1", -1 - 179);
    }

    private static void ahead() {
        waiversAheadOfAll();
        higherRanksAhead();
        laterAheadOfTheSameRank();
    }

    private static void ranks(String text, int... want) {
        Board x = Board.of(text, want.length);
        for (int i = 0; i < want.length; i++) {
            Check.same("rank(" + i + ") of [" + text + "]", x.call().rank(i), want[i]);
        }
    }

    // AHEAD of others stand WAIVERS
    private static void waiversAheadOfAll() {
        ranks("waive any and any;", 0);
        ranks("waive any and any;via rank 99 1 nm;", 0, 1);
        ranks("via rank 99 1 nm;waive any and any;", 1, 0);
        ranks("waive any and any;gap 1 nm;waive any and any;", 1, 2, 0);
    }

    // then rules of higher RANK
    private static void higherRanksAhead() {
        ranks("via rank 1 1 nm;via rank 0 1 nm;", 0, 1);
        ranks("via rank 0 1 nm;via rank 1 1 nm;", 1, 0);
        ranks("via rank 99 1 nm;via rank 98 1 nm;", 0, 1);
        ranks("via rank 1 1 nm;via 1 nm;ring rank 99 1 nm;test rank 2 1;", 2, 3, 0, 1);
    }

    // of the same the later ones in the text (so among WAIVERS)
    private static void laterAheadOfTheSameRank() {
        ranks("via 1 nm;", 0);
        ranks("via 1 nm;ring 1 nm;", 1, 0);
        ranks("via 1 nm;ring rank 0 1 nm;", 1, 0);
        ranks("via rank 99 1 nm;ring rank 99 1 nm;", 1, 0);
        ranks("waive any and any;waive class a and net n;waive any and any;", 2, 1, 0);
    }

    private static void covers() {
        kindsCovered();
        thingsCovered();
        layersCovered();
        areasCovered();
        shapesHeld();
        waiversCover();
    }

    /** Two rules, of which the later one stands ahead: does it cover the first? */
    private static void covers(String later, String first, boolean want) {
        Board x = Board.named().shape(0, 0, 0, 10, 10).shape(15, 2, 2, 5, 5).name(2, 7, "r").reads(first + later, 2);
        if (want) {
            x.never(0);
        } else {
            x.never();
        }
    }

    // A rule COVERS another one when it is of its kind
    private static void kindsCovered() {
        for (int i = 0; i < 12; i++) {
            for (int k = 0; k < 12; k++) {
                String one = KINDS[i] + (counted(i) ? " 1;" : " 1 nm;");
                String other = KINDS[k] + (counted(k) ? " 1;" : " 1 nm;");
                covers(one, other, i == k);
            }
        }
    }

    // its THING is any, or the other one's (gap, WAIVERS: both, one for each, either way round)
    private static void thingsCovered() {
        String[] things = {"any", "class a", "class b", "net n", "net m"};
        for (String one : things) {
            for (String other : things) {
                boolean want = one.equals("any") || one.equals(other);
                covers("via of " + one + " 1 nm;", "via of " + other + " 1 nm;", want);
            }
        }
        // The same number, but another kind.
        covers("via of class a 1 nm;", "via of net n 1 nm;", false);
        String gap = "gap between class a and net n 1 nm;";
        covers("gap 1 nm;", gap, true);
        covers("gap between class a and net n 1 nm;", gap, true);
        covers("gap between net n and class a 1 nm;", gap, true);
        covers("gap between any and net n 1 nm;", gap, true);
        covers("gap between any and class a 1 nm;", gap, true);
        covers("gap between class a and any 1 nm;", gap, true);
        covers("gap between class a and class a 1 nm;", gap, false);
        covers("gap between net n and net n 1 nm;", gap, false);
        covers("gap between class b and any 1 nm;", gap, false);
        covers(gap, "gap between class a and any 1 nm;", false);
        covers(gap, "gap between class a and class a 1 nm;", false);
        covers("gap between class a and any 1 nm;", "gap between any and any 1 nm;", false);
        covers("gap between class a and class a 1 nm;", "gap between class a and class a 1 nm;", true);
        covers("gap between class a and class a 1 nm;", "gap between class a and any 1 nm;", false);
    }

    // it has no LAYER, or the same
    private static void layersCovered() {
        String[] layers = {"", "on top ", "on bottom ", "on inner ", "on layer 1 ", "on layer 2 ", "on layer 32 "};
        for (String one : layers) {
            for (String other : layers) {
                covers("via " + one + "1 nm;", "via " + other + "1 nm;", one.isEmpty() || one.equals(other));
            }
        }
    }

    // and no AREA, or the same, or one whose shape is told and holds all of the other one's
    private static void areasCovered() {
        // p holds q; the shape of r is not told.
        String[] areas = {"", "in p ", "in q ", "in r "};
        for (String one : areas) {
            for (String other : areas) {
                boolean want = one.isEmpty() || one.equals(other) || one.equals("in p ") && other.equals("in q ");
                covers("via " + one + "1 nm;", "via " + other + "1 nm;", want);
            }
        }
        // Both shapes must be told, be it the one or the other that is not.
        Board x = Board.of("via in q 1 nm;via in p 1 nm;", 2).never();
        x.shape(0, 0, 0, 9, 9).never().shape(15, 1, 1, 2, 2).never(0);
        Board y = Board.of("via in q 1 nm;via in p 1 nm;", 2).shape(15, 0, 0, 0, 0).never();
        y.shape(0, 0, 0, 0, 0).never(0);
    }

    /** The area p, 0, 0 to 10, 10, stands ahead: does it hold the shape of q? */
    private static void holds(long x0, long y0, long x1, long y1, boolean want) {
        Board x = Board.of("via in q 1 nm;via in p 1 nm;", 2).shape(0, 0, 0, 10, 10).shape(15, x0, y0, x1, y1);
        if (want) {
            x.never(0);
        } else {
            x.never();
        }
    }

    // holds all of the other one's
    private static void shapesHeld() {
        holds(0, 0, 10, 10, true);
        holds(1, 1, 9, 9, true);
        holds(-1, 0, 10, 10, false);
        holds(0, -1, 10, 10, false);
        holds(0, 0, 11, 10, false);
        holds(0, 0, 10, 11, false);
        holds(-1, -1, 11, 11, false);
        holds(0, 0, 0, 0, true);
        holds(10, 10, 10, 10, true);
        holds(11, 11, 11, 11, false);
        holds(10, 0, 11, 10, false);
        holds(Long.MIN_VALUE, 0, 10, 10, false);
        holds(0, Long.MIN_VALUE, 10, 10, false);
        holds(0, 0, Long.MAX_VALUE, 10, false);
        holds(0, 0, 10, Long.MAX_VALUE, false);
        Board all = Board.of("via in q 1 nm;via in p 1 nm;", 2)
            .shape(0, Long.MIN_VALUE, Long.MIN_VALUE, Long.MAX_VALUE, Long.MAX_VALUE);
        all.shape(15, Long.MIN_VALUE, Long.MIN_VALUE, Long.MAX_VALUE, Long.MAX_VALUE).never(0);
        all.shape(0, Long.MIN_VALUE + 1, Long.MIN_VALUE, Long.MAX_VALUE, Long.MAX_VALUE).never();
        all.shape(0, Long.MIN_VALUE, Long.MIN_VALUE, Long.MAX_VALUE, Long.MAX_VALUE - 1).never();
    }

    // (a WAIVER: covers those of gap and WAIVERS) .. (A WAIVER has neither LAYER nor AREA.)
    private static void waiversCover() {
        String all = "waive any and any;";
        for (int kind = 0; kind < 12; kind++) {
            covers(all, KINDS[kind] + (counted(kind) ? " 1;" : " 1 nm;"), kind == 0);
        }
        covers(all, all, true);
        covers(all, "gap on layer 32 in p rank 99 1 nm;", true);
        covers("waive class a and net n;", "gap between net n and class a on top in q 1 nm;", true);
        covers("waive class a and net n;", "gap between net n and any 1 nm;", false);
        covers("waive class a and net n;", "waive net n and class a;", true);
        covers("waive class a and net n;", all, false);
        // A gap covers no waiver, and never stands ahead of one.
        Board.of("waive any and any;gap rank 99 1 nm;", 2).never(1);
        Board.of("waive class a and net n;gap rank 99 1 nm;", 2).never();
    }

    private static void neverAndClash() {
        neverWins();
        noValueInBoth();
        eachCoversTheOther();
    }

    // A rule can NEVER win when one stands ahead of it that covers it.
    private static void neverWins() {
        Board.of("via 1 nm;", 1).never();
        Board.of("via 1 nm;via 1 nm;", 2).never(0);
        Board.of("via rank 1 1 nm;via 1 nm;", 2).never(1);
        Board.of("via rank 1 1 nm;via rank 1 1 nm;", 2).never(0);
        // It covers, but stands behind; it stands ahead, but does not cover.
        Board.of("via 1 nm;via on top 1 nm;", 2).never();
        Board.of("via on top 1 nm;via 1 nm;", 2).never(0);
        Board.of("via on top rank 1 1 nm;via 1 nm;", 2).never();
        // The values are not asked.
        Board.of("via most 1 nm;via least 9 nm;", 2).never(0);
        new Board().reads(times(60, "test 1;"), 60).never(sequence(59));
    }

    private static int[] sequence(int count) {
        int[] made = new int[count];
        for (int i = 0; i < count; i++) {
            made[i] = i;
        }
        return made;
    }

    private static void clash(String one, String other, boolean want) {
        String[] texts = {one + other, other + one};
        for (String text : texts) {
            Board x = Board.of(text, 2).shape(0, 0, 0, 10, 10).shape(15, 2, 2, 5, 5);
            if (want) {
                x.clashes(0, 1);
            } else {
                x.clashes();
            }
        }
    }

    // Two rules .. CLASH when .. no value lies in both spans.
    private static void noValueInBoth() {
        clash("via 5 nm;", "via 4 nm;", true);
        clash("via 5 nm;", "via 5 nm;", false);
        clash("via 5 nm;", "via 6 nm;", true);
        clash("via 1 to 5 nm;", "via 5 to 9 nm;", false);
        clash("via 1 to 4 nm;", "via 5 to 9 nm;", true);
        clash("via 1 to 9 nm;", "via 5 nm;", false);
        clash("via least 5 nm;", "via most 5 nm;", false);
        clash("via least 6 nm;", "via most 5 nm;", true);
        clash("via least 5 nm;", "via least 9 nm;", false);
        clash("via most 5 nm;", "via most 9 nm;", false);
        clash("via least 5 nm;", "via 4 nm;", true);
        clash("via least 5 nm;", "via 5 nm;", false);
        clash("via most 5 nm;", "via 6 nm;", true);
        clash("via most 5 nm;", "via 5 nm;", false);
        clash("via least 0 nm;", "via most 0 nm;", false);
        clash("via least 1 nm;", "via most 0 nm;", true);
        clash("via 0 nm;", "via least 0 nm;", false);
        clash("via least 1000000 mm;", "via most 1000000 mm;", false);
        clash("via least 1000000 mm;", "via most 999999.999999 mm;", true);
        clash("turns least 1000000;", "turns most 999999;", true);
        // In nm, whatever the units that were told.
        clash("via 1 inch;", "via 1000 mil;", false);
        clash("via 1 inch;", "via 25.4 mm;", false);
        clash("via 1 inch;", "via 25.400001 mm;", true);
    }

    // Two rules, no WAIVERS, CLASH when each covers the other one
    private static void eachCoversTheOther() {
        clash("via 1 nm;", "ring 2 nm;", false);
        clash("via 1 nm;", "via of class a 2 nm;", false);
        clash("via of class a 1 nm;", "via of net n 2 nm;", false);
        clash("via of class a 1 nm;", "via of class a 2 nm;", true);
        clash("gap between class a and net n 1 nm;", "gap between net n and class a 2 nm;", true);
        clash("gap between class a and any 1 nm;", "gap between class a and net n 2 nm;", false);
        clash("via on top 1 nm;", "via 2 nm;", false);
        clash("via in p 1 nm;", "via in q 2 nm;", false);
        clash("via in p 1 nm;", "via in p 2 nm;", true);
        clash("via rank 99 1 nm;", "via 2 nm;", true);
        clash("waive any and any;", "gap 1 nm;", false);
        clash("waive any and any;", "waive any and any;", false);
        // Two areas of one shape hold each other; a little apart, only one does.
        Board x = Board.of("via in p 1 nm;via in q 2 nm;", 2).clashes();
        x.shape(0, 1, 1, 3, 3).clashes().shape(15, 1, 1, 3, 3).clashes(0, 1).shape(15, 1, 1, 3, 4).clashes();
    }

    private static void written() {
        nothingWritten();
        scopeWithAny();
        layerAreaAndRank();
        rankWhenNotZero();
        valueInNm();
        waiverAsTold();
    }

    private static void writes(String text, String want) {
        int count = text.length() - text.replace(";", "").length();
        Board.of(text, count).writes(want);
    }

    private static void nothingWritten() {
        writes("", "");
        writes(" \n", "");
    }

    // SCOPE, with any
    private static void scopeWithAny() {
        for (int kind = 0; kind < 12; kind++) {
            String value = counted(kind) ? " 1" : " 1 nm";
            String scope = kind == 0 ? " between any and any" : " of any";
            writes(KINDS[kind] + value + ";", KINDS[kind] + scope + value + " ;\n");
            writes(KINDS[kind] + scope + value + ";", KINDS[kind] + scope + value + " ;\n");
        }
        writes("gap between any and net m 1 nm;", "gap between any and net m 1 nm ;\n");
        writes("gap between class b and any 1 nm;", "gap between class b and any 1 nm ;\n");
    }

    // LAYER, AREA
    private static void layerAreaAndRank() {
        writes("via on layer 1 in p rank 1 1 nm;", "via of any on layer 1 in p rank 1 1 nm ;\n");
        writes("via on layer 32 in q rank 99 1 nm;", "via of any on layer 32 in q rank 99 1 nm ;\n");
        writes("via on layer 01 rank 01 1 nm;", "via of any on layer 1 rank 1 1 nm ;\n");
        writes("via on top 1 nm;via on bottom 1 nm;via on inner 1 nm;",
            "via of any on top 1 nm ;\nvia of any on bottom 1 nm ;\nvia of any on inner 1 nm ;\n");
    }

    // and RANK when it is not 0
    private static void rankWhenNotZero() {
        writes("via 1 nm;", "via of any 1 nm ;\n");
        writes("via rank 0 1 nm;", "via of any 1 nm ;\n");
        writes("via rank 00 1 nm;", "via of any 1 nm ;\n");
        writes("via rank 1 1 nm;", "via of any rank 1 1 nm ;\n");
        writes("via rank 10 1 nm;", "via of any rank 10 1 nm ;\n");
    }

    // VALUE in nm: least or most, N, or N to N (N alone when both ends are the same), with the word nm
    // (but of turns and test)
    private static void valueInNm() {
        writes("via 5 to 6 nm;", "via of any 5 to 6 nm ;\n");
        writes("via 5 to 5 nm;", "via of any 5 nm ;\n");
        writes("via 5 to 5.0 um;", "via of any 5000 nm ;\n");
        writes("turns 5 to 5.0;test 4 to 5;", "turns of any 5 ;\ntest of any 4 to 5 ;\n");
        writes("via least 0 nm;via most 0 nm;", "via of any least 0 nm ;\nvia of any most 0 nm ;\n");
        writes("via 0 nm;", "via of any 0 nm ;\n");
        writes("via 0 to 1000000 mm;", "via of any 0 to 1000000000000 nm ;\n");
        writes("via 999999.999999 mm;", "via of any 999999999999 nm ;\n");
        writes("via 9 nm;via 10 nm;via 11 nm;", "via of any 9 nm ;\nvia of any 10 nm ;\nvia of any 11 nm ;\n");
        writes("via 1 mil;via 1 inch;", "via of any 25400 nm ;\nvia of any 25400000 nm ;\n");
        writes("turns least 1000000;test most 0;", "turns of any least 1000000 ;\ntest of any most 0 ;\n");
    }

    // A WAIVER as it is told.
    private static void waiverAsTold() {
        writes("waive any and any;", "waive any and any ;\n");
        writes("waive net m\nand class a;", "waive net m and class a ;\n");
    }
}
