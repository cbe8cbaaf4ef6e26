/** Edges, sentence by sentence: promises 29 to 35. */
public final class EdgesOfHeldTest {
    private static final Check C = new Check("EdgesOfHeldTest");
    /** Four that are HELD where one may leave with 18 or later; PLAIN is 4.2, BY THE PUSH and MANY 5. */
    private static final String FOUR = """
        sheet(0, 1, 100, 300) = 0
        sheet(0, 1, 110, 310) = 1
        sheet(0, 12, 120, 400) = 2
        sheet(0, 12, 130, 410) = 3
        """;

    public static void main(String[] args) {
        whomOfOthers();
        whomHasAnotherWage();
        truthOfNone();
        truthOfStatesThatAreNone();
        truthIsCut();
        leansOfOthers();
        leansOfWhatCanNotBeTold();
        leastOfNone();
        leastOfSeveral();
        besideOfNone();
        besideAtTheEnds();
        needsOfNone();
        needsTheLeast();
        worldsOfNone();
        worldsWithoutALand();
        worldsOfFewSheets();
        worldsSeedBySeed();
        worldsTruthIsCut();
        worldsOfEitherSpan();
        worldsBeyondAllNumbers();
        worldsThatAreStrong();
        C.close();
    }

    private static void edge(String sentence, String lines) {
        Story.tell(C, sentence, lines);
    }

    private static String land(String lines, int many) {
        return "\"" + lines + "\" = " + many + "\n";
    }

    // ---------------------------------------------------------------- promise 29

    private static void whomOfOthers() {
        edge("29. NONE for another what", """
            ! whom(0) = 0
            ! whom(1) = 0
            ! whom(-1) = NONE
            ! whom(2) = NONE
            "law enter 6 leave 15;wage school;" = 2
            sheet(0, 1, 99, 1) = 0
            sheet(0, 1, 100, 1) = 1
            ! whom(0) = 1
            ! whom(1) = 1
            ! whom(-1) = NONE
            ! whom(2) = NONE
            ! whom(MIN) = NONE
            ! whom(MAX) = NONE
            """);
    }

    private static void whomHasAnotherWage() {
        edge("29. how many of these have another WAGE, without noise, by one month of school more", """
            "law enter 6 leave 15;wage school over 2;noise 999;" = 3
            # HELD and more by one month: 97, 99; not: 98; not HELD: 101
            sheet(0, 1, 97, 1) = 0
            sheet(0, 1, 98, 1) = 1
            sheet(0, 1, 99, 1) = 2
            sheet(0, 1, 101, 1) = 3
            ! whom(0) = 3
            ! whom(1) = 2
            "law enter 6 leave 15;wage 100 minus school over 2;" = 2
            ! whom(1) = 2
            "law enter 6 leave 15;wage 9 over 0;" = 2
            ! whom(1) = 0
            "law enter 6 leave 15;" = 1
            ! whom(0) = 3
            ! whom(1) = 0
            # 9999 at most: 9900 at 99, and no more from 100 on
            "law enter 6 leave 16;wage school times 101;" = 2
            ! whom(0) = 4
            ! whom(1) = 2
            land() = 0
            ! whom(0) = 0
            ! whom(1) = 0
            """);
    }

    // ---------------------------------------------------------------- promise 30

    private static void truthOfNone() {
        edge("30. NOTHING: there are none", """
            ! truth(true) = NOTHING
            ! truth(false) = NOTHING
            "law enter 6 leave 15;wage school times 3;" = 2
            ! truth(true) = NOTHING
            ! truth(false) = NOTHING
            # FORCED is 100
            sheet(0, 1, 100, 1) = 0
            ! truth(true) = NOTHING
            ! truth(false) = 3000
            sheet(0, 1, 99, 1) = 1
            ! truth(true) = 3000
            ! truth(false) = 3000
            """);
    }

    private static void truthOfStatesThatAreNone() {
        edge("30. NOTHING: or the STATE of one is none now", """
            "law enter 6 leave 15;law enter 6 leave 15;wage school times 3;" = 3
            sheet(0, 1, 5, 1) = 0
            sheet(1, 1, 5, 1) = 1
            ! truth(true) = 3000
            ! truth(false) = 3000
            "law enter 6 leave 15;wage school times 4;" = 2
            ! truth(false) = NOTHING
            # what has no STATE now is not HELD
            ! truth(true) = 4000
            land() = 0
            ! truth(false) = NOTHING
            ! truth(true) = NOTHING
            """);
    }

    private static void truthIsCut() {
        edge("30. The mean worth(), in thousandths, cut towards 0", """
            "law enter 6 leave 15;wage school over 3;" = 2
            sheet(0, 1, 2, 1) = 0
            sheet(0, 1, 0, 1) = 1
            sheet(0, 1, 5, 1) = 2
            ! truth(true) = 666
            ! truth(false) = 666
            "law enter 6 leave 15;wage 99 minus school over 3;" = 2
            ! truth(true) = -666
            ! truth(false) = -666
            # one that is not HELD counts for all of them alone
            sheet(0, 1, 298, 1) = 3
            ! truth(true) = -666
            ! truth(false) = -500
            """);
        edge("30. of as many as there may be", """
            "law enter 6 leave 15;wage 999 times 999 times school;" = 2
            200 x sheet(0, 1, 0, 1)
            truth(true) = 9999000
            truth(false) = 9999000
            """);
    }

    // ---------------------------------------------------------------- promises 31 and 32

    private static void leansOfOthers() {
        edge("31. NOTHING: another what", land("law enter 6 leave 18;wage school times 4;", 2) + FOUR + """
            ! leans(0, 2048) = 200
            ! leans(1, 2048) = 1000
            ! leans(2, 2048) = 1000
            ! leans(-1, 2048) = NOTHING
            ! leans(3, 2048) = NOTHING
            ! leans(MIN, 2048) = NOTHING
            ! leans(MAX, 2048) = NOTHING
            """);
        edge("31. By how much one leans: below too", land("law enter 6 leave 18;wage school times 6;", 2) + FOUR + """
            leans(0, 2048) = -1800
            leans(1, 2048) = -1000
            leans(2, 2048) = -1000
            """);
    }

    private static void leansOfWhatCanNotBeTold() {
        edge("31. NOTHING: one can't be told: the PUSH", land("law enter 6 leave 18;wage school times 4;", 2) + FOUR + """
            ! leans(1, 0) = NOTHING
            ! leans(1, 4095) = NOTHING
            ! leans(1, MIN) = NOTHING
            ! leans(1, MAX) = NOTHING
            ! leans(1, 2) = NOTHING
            ! leans(1, 2049) = NOTHING
            ! leans(1, 1) = 1000
            ! leans(1, 4094) = 1000
            # PLAIN and MANY have no PUSH
            ! leans(0, 0) = 200
            ! leans(2, 4095) = 1000
            """);
        edge("31. NOTHING: one can't be told: truth()", land("law enter 9 leave 10;wage school times 4;", 2) + FOUR + """
            plain() = 4200
            truth(true) = NOTHING
            ! leans(0, 2048) = NOTHING
            ! leans(1, 2048) = NOTHING
            ! leans(2, 2048) = NOTHING
            ! least(2048) = NONE
            """);
        edge("31. NOTHING: one can't be told: without a gap", """
            "law enter 6 leave 18;wage school times 4;" = 2
            sheet(0, 1, 7, 1) = 0
            sheet(0, 2, 7, 2) = 1
            truth(true) = 4000
            ! leans(0, 1) = NOTHING
            ! leans(1, 1) = NOTHING
            ! leans(2, 1) = NOTHING
            ! least(1) = NONE
            """);
    }

    private static void leastOfNone() {
        edge("32. NONE: none can be told", """
            ! least(1) = NONE
            ! least(0) = NONE
            ! least(MIN) = NONE
            "law enter 6 leave 18;wage school times 4;" = 2
            ! least(1) = NONE
            """);
        edge("32. Which of these: without the PUSH", land("law enter 6 leave 18;wage school times 5;", 2) + FOUR + """
            ! least(2048) = 1
            ! least(0) = 2
            ! least(4095) = 2
            ! least(2) = 2
            ! least(2049) = 2
            """);
    }

    private static void leastOfSeveral() {
        edge("32. leans least, above or below", land("law enter 6 leave 18;wage school times 4;", 2) + FOUR + """
            ! least(2048) = 0
            "law enter 6 leave 18;wage school times 6;" = 2
            ! least(2048) = 1
            """);
        edge("32. the first of several: BY THE PUSH and MANY", land("law enter 6 leave 18;wage school times 5;", 2) + FOUR + """
            leans(1, 2048) = 0
            leans(2, 2048) = 0
            ! least(2048) = 1
            """);
        edge("32. the first of several, one below and one above", """
            "law enter 6 leave 18;wage school times 9;" = 2
            sheet(0, 1, 6, 58) = 0
            sheet(0, 1, 2, 31) = 1
            sheet(0, 2, 3, 10) = 2
            sheet(0, 2, 2, 43) = 3
            leans(0, 1) = -3000
            leans(1, 1) = 3000
            # (4 488 - 13 142) by (4 44 - 13 13)
            leans(2, 1) = 6142
            ! least(1) = 0
            """);
        edge("32. MANY leans least", """
            "law enter 6 leave 18;wage school times 15;" = 2
            sheet(0, 1, 6, 58) = 0
            sheet(0, 1, 2, 31) = 1
            sheet(0, 2, 3, 10) = 2
            sheet(0, 2, 2, 43) = 3
            leans(1, 1) = -3000
            leans(2, 1) = 142
            ! least(1) = 2
            """);
    }

    // ---------------------------------------------------------------- promise 33

    private static void besideOfNone() {
        edge("33. NOTHING: there are none such, its STATE is none now", """
            ! beside(0, 1) = NOTHING
            "law enter 6 leave 15;law enter 6 leave 16;wage month times 2;" = 3
            sheet(0, 3, 5, 1) = 0
            sheet(1, 3, 5, 1) = 1
            ! beside(0, 1) = -4
            ! beside(1, 12) = 18
            ! beside(0, 0) = NOTHING
            ! beside(0, 13) = NOTHING
            ! beside(0, MIN) = NOTHING
            ! beside(0, MAX) = NOTHING
            ! beside(-1, 1) = NOTHING
            ! beside(2, 1) = NOTHING
            ! beside(MIN, 1) = NOTHING
            ! beside(MAX, 1) = NOTHING
            "law enter 6 leave 15;wage month times 2;" = 2
            ! beside(0, 1) = -4
            ! beside(1, 1) = NOTHING
            land() = 0
            ! beside(0, 1) = NOTHING
            """);
    }

    private static void besideAtTheEnds() {
        edge("33. its SCHOOL, GIFT as they are, less that as it is", """
            "law enter 6 leave 15;sort share 1 gift 7 wish 0;leak 1 by 20;wage school times 9 plus gift times 3 plus old minus forced;noise 99;" = 5
            # the first SHEET of the seed 0 is of MONTH 1: GIFT 27, SCHOOL 100, OLD 80, FORCED 100
            draw(0, 1) = 1
            told(0, 4) = 27
            told(0, 2) = 100
            ! beside(0, 1) = 0
            ! beside(0, 2) = -2
            ! beside(0, 12) = -22
            """);
        edge("33. WAGE of each is 0 .. 9999", """
            "law enter 6 leave 15;wage month times 999;" = 2
            sheet(0, 12, 5, 1) = 0
            sheet(0, 10, 5, 1) = 1
            sheet(0, 1, 5, 1) = 2
            ! beside(0, 11) = 0
            ! beside(0, 10) = -9
            ! beside(1, 12) = 9
            ! beside(2, 12) = 9000
            "law enter 6 leave 15;wage 5 minus month;" = 2
            ! beside(0, 1) = 4
            ! beside(0, 5) = 0
            ! beside(2, 12) = -4
            "law enter 6 leave 15;" = 1
            ! beside(2, 12) = 0
            """);
    }

    // ---------------------------------------------------------------- promise 34

    private static void needsOfNone() {
        String four = land("law enter 6 leave 15;", 1) + FOUR;
        edge("34. by a told number of hundredths (0 .. 1,000,000)", four + """
            ! needs(2048, 0) = 3
            ! needs(2048, 1_000_000) = NONE
            ! needs(2048, -1) = -2
            ! needs(2048, 1_000_001) = -2
            ! needs(2048, MIN) = -2
            ! needs(2048, MAX) = -2
            """);
        edge("34. -2: there are none such: a PUSH", four + """
            ! needs(1, 0) = 3
            ! needs(4094, 0) = 3
            ! needs(0, 0) = -2
            ! needs(4095, 0) = -2
            ! needs(-1, 0) = -2
            ! needs(4096, 0) = -2
            ! needs(MIN, 0) = -2
            ! needs(MAX, 0) = -2
            """);
        edge("34. NONE: none", """
            ! needs(1, 0) = NONE
            ! needs(0, 0) = -2
            "law enter 6 leave 15;" = 1
            sheet(0, 1, 1, 1) = 0
            ! needs(1, 0) = NONE
            sheet(0, 2, 2, 1) = 1
            # fewer than three
            ! needs(1, 0) = NONE
            sheet(0, 2, 2, 1) = 2
            # without a rest: 999,999,999
            ! needs(1, 1_000_000) = 3
            # none are MOVED, all are MOVED
            ! needs(4, 0) = NONE
            ! needs(3, 0) = NONE
            """);
    }

    private static void needsTheLeast() {
        edge("34. at least", land("law enter 6 leave 15;", 1) + FOUR + """
            # the first three: n 1, s 120; m 2, t 210; D 30, Q 100; 1 900 by 3 100
            needs(2048, 299) = 3
            needs(2048, 300) = 3
            needs(2048, 301) = 4
            strong(2048) = 800
            needs(2048, 799) = 4
            needs(2048, 800) = 4
            needs(2048, 801) = NONE
            """);
        edge("34. The least n, by the first n SHEETS alone", """
            "law enter 6 leave 15;" = 1
            sheet(0, 1, 10, 1) = 0
            sheet(0, 1, 20, 1) = 1
            sheet(0, 1, 30, 1) = 2
            sheet(0, 1, 40, 1) = 3
            # till here all are MOVED, or none
            needs(1, 0) = NONE
            needs(2, 0) = NONE
            sheet(0, 2, 25, 1) = 4
            # D 0
            needs(1, 0) = 5
            needs(1, 1) = NONE
            sheet(0, 2, 99, 1) = 5
            # n 4, s 100; m 2, t 124; D -296; Q 8 13426 - 20000 - 61504 = 25904; 4 87616 by 6 25904
            strong(1) = 225
            needs(1, 0) = 5
            needs(1, 1) = 6
            needs(1, 225) = 6
            needs(1, 226) = NONE
            """);
        edge("34. The least n: what comes behind may be weaker", """
            "law enter 6 leave 15;" = 1
            2 x sheet(0, 1, 10, 1)
            sheet(0, 2, 20, 1) = 2
            needs(1, 1_000_000) = 3
            sheet(0, 2, 0, 1) = 3
            strong(1) = 0
            needs(1, 1_000_000) = 3
            """);
        edge("34. all of as many as there may be", """
            "law enter 6 leave 15;" = 1
            199 x sheet(0, 1, 10, 1)
            sheet(0, 2, 20, 1) = 199
            needs(1, 1_000_000) = 200
            needs(2, 1_000_000) = 200
            """);
    }

    // ---------------------------------------------------------------- promise 35

    private static final String HELD_ONES = "\"law enter 6 leave 15;sort share 1 gift 5 wish 0;wage school times 3;\" = 3\n";

    private static void worldsOfNone() {
        StringBuilder lines = new StringBuilder(HELD_ONES + "draw(9, 6) = 6\n");
        String[] none = {"0, 1, 1, 1, W", "4095, 1, 1, 1, W", "-1, 1, 1, 1, W", "MIN, 1, 1, 1, W", "MAX, 1, 1, 1, W",
            "63, -1, 1, 1, W", "63, 2_000_000_001, 1, 1, W", "63, MIN, 1, 1, W", "63, MAX, 1, 1, W",
            "63, 1, 0, 1, W", "63, 1, 21, 1, W", "63, 1, -1, 1, W", "63, 1, MIN, 1, W", "63, 1, MAX, 1, W",
            "63, 1, 1, 0, W", "63, 1, 1, 11, W", "63, 1, 1, MIN, W", "63, 1, 1, MAX, W"};
        for (String one : none) {
            for (int what = 0; what < 3; what++) {
                lines.append("! worlds(").append(one.replace("W", "" + what)).append(") = -2\n");
            }
        }
        for (String what : new String[] {"-1", "3", "MIN", "MAX"}) {
            lines.append("! worlds(63, 1, 1, 1, ").append(what).append(") = -2\n");
        }
        edge("35. -2: there are none such", lines.toString());
        edge("35. n WORLDS (1 .. 20), a PUSH 1 .. 4094, a seed 0 .. 2,000,000,000, k 1 .. 10. (The SHEETS stay.)", HELD_ONES + """
            draw(9, 100) = 100
            ! worlds(63, 0, 1, 1, 0) = 1
            ! worlds(63, 0, 20, 10, 0) = 20
            ! worlds(63, 2_000_000_000, 20, 1, 0) = 20
            ! worlds(63, 2_000_000_000, 20, 10, 1) = 20
            ! worlds(63, 0, 20, 1, 2) = 20
            ! worlds(1, 5, 20, 1, 0) = 20
            ! worlds(4094, 5, 20, 1, 0) = 20
            """);
    }

    private static void worldsWithoutALand() {
        edge("35. -6: as draw(), or there are no SHEETS", HELD_ONES + """
            ! worlds(63, 1, 1, 1, 0) = -6
            ! worlds(63, 1, 1, 1, 3) = -2
            ! worlds(0, 1, 1, 1, 0) = -2
            draw(9, 4) = 4
            ! worlds(3, 0, 1, 1, 0) = 1
            "law enter 6 leave 15;wage school times 3;" = 2
            ! worlds(63, 1, 1, 1, 0) = -6
            ! worlds(63, 1, 21, 1, 0) = -2
            "sort share 1 gift 5 wish 0;wage school times 3;" = 2
            ! worlds(63, 1, 1, 1, 0) = -6
            land() = 0
            ! worlds(63, 1, 1, 1, 2) = -6
            count(2) = 4
            new
            ! worlds(63, 1, 1, 1, 0) = -6
            """);
    }

    private static void worldsOfFewSheets() {
        edge("35. as many SHEETS as now: one and two tell no SPAN", HELD_ONES + """
            sheet(0, 1, 5, 5) = 0
            ! worlds(63, 0, 20, 10, 0) = 0
            ! worlds(63, 0, 20, 10, 1) = 0
            ! worlds(63, 0, 20, 10, 2) = 0
            sheet(0, 1, 5, 5) = 1
            ! worlds(63, 0, 20, 10, 0) = 0
            ! worlds(63, 0, 20, 10, 1) = 0
            ! worlds(63, 0, 20, 10, 2) = 0
            """);
        // the MONTHS of the first three from the seed 0 are 1, 2, 5: 1 and 2 are MOVED by 3, all by 31, none by 2048
        edge("35. as many SHEETS as now: three do; none or all MOVED tell none", HELD_ONES + """
            draw(7, 3) = 3
            ! worlds(3, 0, 1, 1, 0) = 1
            ! worlds(3, 0, 1, 1, 1) = 1
            ! worlds(31, 0, 1, 1, 0) = 0
            ! worlds(31, 0, 1, 1, 1) = 0
            ! worlds(31, 0, 1, 1, 2) = 0
            ! worlds(2048, 0, 1, 1, 0) = 0
            ! worlds(2048, 0, 1, 1, 1) = 0
            ! worlds(2048, 0, 1, 1, 2) = 0
            """);
        edge("35. truth() of those HELD: there are none", """
            "law enter 6 leave 15;sort share 1 gift 5 wish 111;wage school times 3;" = 3
            draw(9, 100) = 100
            whom(0) = 0
            ! worlds(63, 0, 20, 10, 0) = 0
            ! worlds(63, 0, 20, 10, 1) = 0
            """);
    }

    private static void worldsSeedBySeed() {
        // STRONG by 63 of four SHEETS: by the seeds 51, 52, .. each as draw() and strong() tell
        edge("35. drawn from a seed, the seed and 1, .. each", HELD_ONES + """
            draw(61, 4) = 4
            strong(63) = 1000
            ! worlds(63, 61, 1, 1, 2) = 1
            """);
        MonthPush x = Check.with("law enter 6 leave 15;sort share 1 gift 5 wish 0;wage school times 3;");
        int due = 0;
        for (int i = 0; i < 20; i++) {
            x.draw(1999999990 + i % 11, 4);
            int one = x.strong(63) >= 1000 ? 1 : 0;
            C.due("35. one WORLD", x.worlds(63, 1999999990 + i % 11, 1, 1, 2), one);
            due += i < 11 ? one : 0;
        }
        C.due("35. eleven WORLDS", x.worlds(63, 1999999990, 11, 1, 2), due);
        C.holds("35. some are STRONG and some are not", due > 0 && due < 11);
    }

    private static void worldsTruthIsCut() {
        String halves = "\"law enter 6 leave 15;sort share 1 gift 5 wish 0;wage 999 minus school over 2;\" = 3\n";
        edge("35. (in thousandths cut to whole): -0.25 is 0", halves + """
            draw(8, 4) = 4
            truth(true) = -250
            kept(7, 1, 0) = 1
            kept(7, 1, -1) = 0
            ! worlds(7, 8, 1, 1, 0) = 1
            ! worlds(7, 8, 1, 1, 1) = 1
            """);
        edge("35. (in thousandths cut to whole): -0.5 is 0", halves + """
            draw(13, 4) = 4
            truth(true) = -500
            kept(63, 1, 0) = 0
            kept(63, 1, -1) = 1
            ! worlds(63, 13, 1, 1, 0) = 0
            ! worlds(63, 13, 1, 1, 1) = 0
            """);
    }

    private static void worldsOfEitherSpan() {
        String cubes = "\"law enter 6 leave 15;sort share 1 gift 5 wish 0;wage school times school times school over 500 over 4;\" = 3\n";
        edge("35. 0: in whose TRUE SPAN, 1: in whose USUAL SPAN: in this one alone", cubes + """
            draw(29, 4) = 4
            truth(true) = 17750
            kept(7, 1, 17) = 0
            ! worlds(7, 29, 1, 1, 0) = 0
            ! worlds(7, 29, 1, 1, 1) = 1
            """);
        edge("35. 0: in whose TRUE SPAN, 1: in whose USUAL SPAN: in that one alone", cubes + """
            draw(108, 4) = 4
            truth(true) = 17000
            kept(63, 1, 17) = 1
            ! worlds(63, 108, 1, 1, 0) = 1
            ! worlds(63, 108, 1, 1, 1) = 0
            """);
        edge("35. (in thousandths cut to whole): 16.983 is 16", cubes + """
            draw(12, 60) = 60
            truth(true) = 16983
            kept(1, 1, 16) = 1
            kept(1, 1, 17) = 0
            ! worlds(1, 12, 1, 1, 0) = 1
            """);
    }

    private static void worldsBeyondAllNumbers() {
        String lands = "\"law enter 9 leave 10;sort share 1 gift 5 wish 0;wage SUM;\" = 3\ndraw(9, 50) = 50\n";
        String all = "! worlds(63, 1, 20, 10, 0) = 20\n! worlds(63, 1, 20, 10, 1) = 20\n";
        String none = "! worlds(63, 1, 20, 10, 0) = 0\n! worlds(63, 1, 20, 10, 1) = 0\n";
        edge("35. in whose SPAN it lies: 99", lands.replace("SUM", "school times 99") + "truth(true) = 99000\n" + all);
        edge("35. in whose SPAN it lies: 100 is no number of it", lands.replace("SUM", "school times 100") + "truth(true) = 100000\n" + none);
        edge("35. in whose SPAN it lies: -99", lands.replace("SUM", "99 times 99 minus school times 99") + "truth(true) = -99000\n" + all);
        edge("35. in whose SPAN it lies: -100 is no number of it", lands.replace("SUM", "99 times 99 minus school times 100") + "truth(true) = -100000\n" + none);
    }

    private static void worldsThatAreStrong() {
        edge("35. STRONG by 1,000 hundredths: as much", HELD_ONES + "draw(51, 4) = 4\nstrong(3) = 1000\n! worlds(3, 51, 1, 1, 2) = 1\n");
        edge("35. STRONG by 1,000 hundredths: one less", HELD_ONES + "draw(2912, 8) = 8\nstrong(1) = 999\n! worlds(1, 2912, 1, 1, 2) = 0\n");
        edge("35. STRONG by 1,000 hundredths: one more", HELD_ONES + "draw(347, 6) = 6\nstrong(63) = 1001\n! worlds(63, 347, 1, 1, 2) = 1\n");
    }
}
