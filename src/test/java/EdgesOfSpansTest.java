/** Edges, sentence by sentence: Terms IV, and promises 22 to 25. */
public final class EdgesOfSpansTest {
    private static final Check C = new Check("EdgesOfSpansTest");
    private static final String LAW = "\"law enter 6 leave 15;\" = 1\n";
    private static final String FOUR = LAW + """
        sheet(0, 1, 100, 300) = 0
        sheet(0, 1, 110, 310) = 1
        sheet(0, 12, 120, 400) = 2
        sheet(0, 12, 130, 410) = 3
        """;

    public static void main(String[] args) {
        keptAtTheEdge();
        keptAtTheEndsOfAllNumbers();
        spansThatCanNotBeTold();
        spansOfNone();
        spansWithAndWithoutGaps();
        usualAtTheEdge();
        usualIsCutToWhole();
        usualBeyond();
        usualThatCanNotBeTold();
        keptOfNone();
        hatsFromASeed();
        hatsThatCanNotTell();
        hatsNearPlain();
        hatsWithoutPlain();
        hatsWithoutANought();
        hatsOfNone();
        C.close();
    }

    private static void edge(String sentence, String lines) {
        Story.tell(C, sentence, lines);
    }

    /** SHEETS with SCHOOL and WAGE, the first of MONTH 1 and the others of MONTH 2. */
    private static String sheets(int moved, int... schoolsAndWages) {
        StringBuilder lines = new StringBuilder(LAW);
        for (int i = 0; 2 * i < schoolsAndWages.length; i++) {
            lines.append("sheet(0, ").append(i < moved ? 1 : 2).append(", ").append(schoolsAndWages[2 * i]).append(", ");
            lines.append(schoolsAndWages[2 * i + 1]).append(") = ").append(i).append("\n");
        }
        return lines.toString();
    }

    private static String spanIs(String call, Object... due) {
        StringBuilder lines = new StringBuilder();
        for (int what = 0; what < 4; what++) {
            lines.append("! ").append(call.replace("WHAT", "" + what)).append(" = ").append(due[what]).append("\n");
        }
        return lines.toString();
    }

    // ---------------------------------------------------------------- the TRUE SPAN

    private static void keptAtTheEdge() {
        // without SCHOOL every number leaves the whole WAGE: all are kept, or none
        String all = spanIs("span(1, K, WHAT)", 199, -99, 99, 1);
        String none = spanIs("span(1, K, WHAT)", 0, "NOTHING", "NOTHING", 0);
        // n 1, m 3: D 3 3 - 3 = 6; Q 3 18 - 27 - 9 = 18; 1 4 18 by 2 = 36
        edge("IV. D D is not above it: as much", sheets(1, 0, 3, 0, 0, 0, 0, 0, 3) + all.replace("K", "1") + "kept(1, 1, 0) = 1\n");
        // D 0 - 7; Q 3 19 - 0 - 49 = 8; 3 4 8 by 2 = 48, one less than 49
        edge("IV. D D is not above it: one above", sheets(1, 0, 0, 0, 3, 0, 1, 0, 3) + none.replace("K", "3") + all.replace("K", "4")
            + "kept(1, 3, 0) = 0\nkept(1, 4, 0) = 1\n");
        // n 1, m 6: D 2 6 - 23 = -11; Q 6 97 - 24 - 529 = 29; 3 7 29 by 5 = 121.8
        edge("IV. by (n + m - 2), cut", sheets(1, 0, 2, 0, 5, 0, 3, 0, 4, 0, 3, 0, 5, 0, 3) + all.replace("K", "3") + none.replace("K", "2"));
        edge("IV. D D is not above it: both 0", sheets(1, 0, 5, 0, 5, 0, 5) + all.replace("K", "1"));
    }

    private static void keptAtTheEndsOfAllNumbers() {
        // no rest at all: a number is kept if it is BY THE PUSH itself
        edge("IV. those whole numbers b of -99 .. 99: 99", sheets(2, 5, 0, 5, 0, 6, 99) + spanIs("span(2, 10, WHAT)", 1, 99, 99, 1)
            + "kept(2, 10, 99) = 1\nkept(2, 10, 98) = 0\n");
        edge("IV. those whole numbers b of -99 .. 99: 100 is none", sheets(2, 5, 0, 5, 0, 6, 100) + spanIs("span(2, 10, WHAT)", 0, "NOTHING", "NOTHING", 0)
            + "kept(2, 10, 99) = 0\nkept(2, 10, 100) = -2\n");
        edge("IV. those whole numbers b of -99 .. 99: -99", sheets(2, 5, 99, 5, 99, 6, 0) + spanIs("span(2, 10, WHAT)", 1, -99, -99, 1)
            + "kept(2, 10, -99) = 1\nkept(2, 10, -98) = 0\n");
        edge("IV. those whole numbers b of -99 .. 99: -100 is none", sheets(2, 5, 100, 5, 100, 6, 0) + spanIs("span(2, 10, WHAT)", 0, "NOTHING", "NOTHING", 0)
            + "kept(2, 10, -99) = 0\nkept(2, 10, -100) = -2\n");
        edge("22. 1: the least, 2: the greatest (NOTHING: none)", sheets(2, 5, 0, 5, 0, 7, 5) + spanIs("span(2, 10, WHAT)", 0, "NOTHING", "NOTHING", 0));
    }

    private static void spansThatCanNotBeTold() {
        String none = spanIs("span(1, 1, WHAT)", "NOTHING", "NOTHING", "NOTHING", "NOTHING") + "! kept(1, 1, 0) = -2\n";
        edge("IV. It can't be told with fewer than three SHEETS: none", none);
        edge("IV. It can't be told with fewer than three SHEETS: one", sheets(1, 1, 1) + none);
        edge("IV. It can't be told with fewer than three SHEETS: two", sheets(1, 1, 1, 2, 2) + none);
        edge("IV. It can be told with three SHEETS", sheets(1, 1, 1, 2, 2, 3, 3) + spanIs("span(1, 1, WHAT)", 1, 1, 1, 1));
        edge("IV. It can't be told, if none are MOVED", FOUR + none.replace("(1,", "(2,") + none.replace("(1,", "(2046,"));
        edge("IV. It can't be told, if all are MOVED", FOUR + none.replace("(1,", "(2049,") + none.replace("(1,", "(4093,"));
        // n 2, m 1: D 8 - 8; Q 2 (1 + 49 + 16) - 64 - 32 = 36, and SCHOOL is of one number
        edge("IV. It can be told without BY THE PUSH", sheets(2, 5, 1, 5, 7, 5, 4) + "by(1) = NOTHING\n" + spanIs("span(1, 1, WHAT)", 199, -99, 99, 1));
    }

    private static void spansOfNone() {
        StringBuilder lines = new StringBuilder(FOUR);
        String[] none = {"2048, 0, 0", "2048, 11, 0", "2048, -1, 0", "2048, MIN, 0", "2048, MAX, 0", "2048, 1, -1", "2048, 1, 4", "2048, 1, MIN", "2048, 1, MAX",
            "0, 1, 0", "4095, 1, 0", "-1, 1, 0", "4096, 1, 0", "MIN, 1, 0", "MAX, 1, 0"};
        for (String one : none) {
            lines.append("! span(").append(one).append(") = NOTHING\n");
            lines.append("! usual(").append(one).append(") = NOTHING\n");
        }
        edge("22. NOTHING: there is no such PUSH, k, what", lines.toString());
        edge("22. by k (1 .. 10), of a PUSH 1 .. 4094", FOUR + spanIs("span(2048, 1, WHAT)", 4, 4, 7, 1) + spanIs("span(4094, 10, WHAT)", 164, -99, 99, 0)
            + spanIs("span(1, 10, WHAT)", 164, -99, 99, 0));
        edge("23. likewise", FOUR + spanIs("usual(2048, 1, WHAT)", 3, 4, 6, 1) + spanIs("usual(4094, 10, WHAT)", 9, 1, 9, 1) + spanIs("usual(1, 10, WHAT)", 9, 1, 9, 1));
    }

    private static void spansWithAndWithoutGaps() {
        // of the four D is 80 (5 - b) and Q 400 (b - 1)(b - 1): 8 (5 - b)(5 - b) is not above k (b - 1)(b - 1)
        edge("22. 3: 1 if all between are kept", FOUR + """
            span(2048, 7, 0) = 59
            span(2048, 7, 1) = 4
            span(2048, 7, 2) = 62
            span(2048, 7, 3) = 1
            span(2048, 8, 0) = 97
            span(2048, 8, 1) = 3
            span(2048, 8, 2) = 99
            span(2048, 8, 3) = 1
            """);
        edge("22. 3: else 0", FOUR + """
            span(2048, 9, 0) = 132
            span(2048, 9, 3) = 0
            span(2048, 10, 0) = 164
            span(2048, 10, 1) = -99
            span(2048, 10, 2) = 99
            span(2048, 10, 3) = 0
            kept(2048, 10, -33) = 1
            kept(2048, 10, -32) = 0
            kept(2048, 10, 2) = 0
            kept(2048, 10, 3) = 1
            """);
        edge("22. 3: (0, too, if none is)", sheets(2, 5, 0, 5, 0, 7, 5) + "span(2, 1, 3) = 0\nusual(2, 1, 3) = 0\n");
        edge("22. 3: 1 if one alone is kept", sheets(2, 5, 0, 5, 0, 7, 6) + "span(2, 1, 3) = 1\nusual(2, 1, 3) = 1\n");
    }

    // ---------------------------------------------------------------- the USUAL SPAN

    private static void usualAtTheEdge() {
        // at 1: D D and what it must not be above are 1225; at 0 they are 1936 and 1225
        edge("IV. USUAL SPAN: likewise: as much", sheets(2, 2, 7, 0, 8, 2, 14, 4, 28, 1, 2) + "by(1) = 5375\n" + spanIs("usual(1, 1, WHAT)", 9, 1, 9, 1));
        // at 0: 1156 and 1155
        edge("IV. USUAL SPAN: likewise: one above", sheets(2, 0, 15, 1, 17, 3, 24, 5, 18, 3, 23) + "by(1) = 1789\n" + spanIs("usual(1, 3, WHAT)", 3, 1, 3, 1));
        edge("IV. with the Q of one b alone", sheets(2, 0, 15, 1, 17, 3, 24, 5, 18, 3, 23) + spanIs("span(1, 3, WHAT)", 5, 1, 5, 1));
    }

    private static void usualIsCutToWhole() {
        // -1.272: with the Q of -2 it would begin at -4
        edge("IV. BY THE PUSH, its thousandths cut to whole ones", sheets(2, 0, 10, 3, 14, 4, 14, 2, 9, 4, 6) + "by(1) = -1272\n"
            + spanIs("usual(1, 1, WHAT)", 5, -3, 1, 1));
        // 23.984: with the Q of 24 it would be -16 .. 64
        edge("IV. BY THE PUSH, its thousandths cut to whole ones", sheets(2, 2, 2, 2, 437, 24, 136, 13, 729, 1, 561) + "by(1) = 23984\n"
            + spanIs("usual(1, 1, WHAT)", 79, -15, 63, 1));
    }

    private static void usualBeyond() {
        String low = LAW + "sheet(0, 1, 50, 5000) = 0\n19 x sheet(0, 2, 0, 0)\n";
        edge("23. beyond -99 .. 99: 99.999 is cut to 99", low + "sheet(0, 2, 0, 1) = 20\nby(1) = 99999\n" + spanIs("usual(1, 1, WHAT)", 0, "NOTHING", "NOTHING", 0));
        edge("23. NOTHING, too, if BY THE PUSH is beyond -99 .. 99: 100", low + "sheet(0, 2, 0, 0) = 20\nby(1) = 100000\n"
            + spanIs("usual(1, 1, WHAT)", "NOTHING", "NOTHING", "NOTHING", "NOTHING") + "span(1, 1, 0) = 0\n");
        String high = LAW + "sheet(0, 1, 50, 0) = 0\n19 x sheet(0, 2, 0, 5000)\n";
        edge("23. beyond -99 .. 99: -99.999 is cut to -99", high + "sheet(0, 2, 0, 4999) = 20\nby(1) = -99999\n" + spanIs("usual(1, 1, WHAT)", 0, "NOTHING", "NOTHING", 0));
        edge("23. NOTHING, too, if BY THE PUSH is beyond -99 .. 99: -100", high + "sheet(0, 2, 0, 5000) = 20\nby(1) = -100000\n"
            + spanIs("usual(1, 1, WHAT)", "NOTHING", "NOTHING", "NOTHING", "NOTHING") + "span(1, 1, 0) = 0\n");
        edge("23. not beyond: 99", sheets(2, 5, 0, 5, 0, 6, 99) + spanIs("usual(2, 10, WHAT)", 1, 99, 99, 1));
        edge("23. not beyond: -99", sheets(2, 5, 99, 5, 99, 6, 0) + spanIs("usual(2, 10, WHAT)", 1, -99, -99, 1));
    }

    private static void usualThatCanNotBeTold() {
        String none = spanIs("usual(1, 1, WHAT)", "NOTHING", "NOTHING", "NOTHING", "NOTHING");
        edge("23. NOTHING, too, if BY THE PUSH can't be told", sheets(2, 5, 1, 5, 7, 5, 4) + "span(1, 1, 0) = 199\n" + none);
        edge("23. NOTHING likewise: no SHEETS", none);
        edge("23. NOTHING likewise: two SHEETS", sheets(1, 1, 1, 2, 2) + "by(1) = 1000\n" + none);
        edge("23. three SHEETS", sheets(1, 1, 1, 2, 2, 3, 3) + spanIs("usual(1, 1, WHAT)", 1, 1, 1, 1));
        edge("23. NOTHING likewise: none are MOVED", FOUR + none.replace("(1,", "(2,"));
        edge("23. NOTHING likewise: all are MOVED", FOUR + none.replace("(1,", "(2049,"));
    }

    // ---------------------------------------------------------------- promise 24

    private static void keptOfNone() {
        StringBuilder lines = new StringBuilder(FOUR);
        String[] none = {"2048, 1, 100", "2048, 1, -100", "2048, 1, MIN", "2048, 1, MAX", "2048, 0, 1", "2048, 11, 1", "2048, MIN, 1", "2048, MAX, 1",
            "0, 1, 1", "4095, 1, 1", "-1, 1, 1", "MIN, 1, 1", "MAX, 1, 1", "2, 1, 1", "2049, 1, 1"};
        for (String one : none) {
            lines.append("! kept(").append(one).append(") = -2\n");
        }
        edge("24. -2: there are none such, it can't be told", lines.toString());
        edge("24. a number (-99 .. 99), k (1 .. 10)", FOUR + """
            ! kept(2048, 10, -99) = 1
            ! kept(2048, 10, 99) = 1
            ! kept(2048, 1, -99) = 0
            ! kept(2048, 1, 99) = 0
            ! kept(2048, 1, 3) = 0
            ! kept(2048, 1, 4) = 1
            ! kept(2048, 1, 7) = 1
            ! kept(2048, 1, 8) = 0
            """);
        edge("24. in the TRUE SPAN, not in the USUAL SPAN", FOUR + "usual(2048, 1, 2) = 6\nkept(2048, 1, 7) = 1\n");
    }

    // ---------------------------------------------------------------- promise 25

    private static void hatsFromASeed() {
        // draws of 2 from the seed 0: 0 0, 0 1, 0 1, 1 1, 0 0
        edge("IV. A HAT: SHEET by SHEET a draw of 2, from the seed on, HAT behind HAT", sheets(1, 1, 1, 2, 2) + """
            ! hats(0, 1, 1, 0) = 0
            hats(0, 2, 1, 0) = 1
            hats(0, 3, 1, 0) = 2
            hats(0, 4, 1, 0) = 2
            hats(0, 5, 1, 0) = 2
            """);
        // 0 0 0 1, 0 1 1 1
        edge("IV. 1: MOVED, 0: not; all else as by a PUSH", FOUR + """
            # (410 3 - 1010) by (130 3 - 330) and (1120 - 900) by (360 - 300): both 3.666; PLAIN is 4.2
            ! hats(0, 1, 1, 0) = 1
            ! hats(0, 2, 1, 0) = 2
            ! hats(0, 1, 1, 1) = 1
            ! hats(0, 2, 1, 1) = 2
            """);
    }

    private static void hatsThatCanNotTell() {
        edge("25. 0: how many can tell BY THEM: no SHEETS", "! hats(0, 40, 1, 0) = 0\n! hats(0, 40, 1, 2) = 0\n");
        edge("25. 0: how many can tell BY THEM: one SHEET", sheets(1, 7, 7) + "! hats(0, 40, 1, 0) = 0\n! hats(0, 40, 1, 2) = 0\n");
        edge("25. 0: how many can tell BY THEM: SHEETS of one SCHOOL", sheets(1, 7, 7, 7, 9, 7, 1) + "! hats(0, 40, 1, 0) = 0\n! hats(0, 40, 1, 2) = 0\n");
        edge("25. 0: none or all are MOVED", sheets(1, 1, 1, 2, 2) + "hats(0, 1, 1, 0) = 0\n");
    }

    private static void hatsNearPlain() {
        // the first HAT from the seed 0 has the fourth SHEET alone: as a PUSH of MONTH 2 here
        String one = "! hats(0, 1, 1, 0) = 1\n! hats(0, 1, 1, 1) = 1\n";
        String none = "! hats(0, 1, 1, 0) = 1\n! hats(0, 1, 1, 1) = 0\n";
        edge("25. 1: within 1,000 thousandths of PLAIN: 1,000 below", sheets(3, 2, 14, 3, 20, 1, 29, 0, 35) + "plain() = -6000\nby(2) = -7000\n" + one);
        edge("25. 1: within 1,000 thousandths of PLAIN: 1,000 above", sheets(3, 10, 36, 10, 21, 6, 29, 10, 30) + "plain() = 0\nby(2) = 1000\n" + one);
        edge("25. 1: within 1,000 thousandths of PLAIN: 1,001 above", sheets(3, 1, 23, 4, 14, 0, 23, 8, 33) + "plain() = 1051\nby(2) = 2052\n" + none);
        edge("25. 1: within 1,000 thousandths of PLAIN: 1,001 below", sheets(3, 2, 1, 10, 13, 5, 17, 4, 10) + "plain() = 1201\nby(2) = 200\n" + none);
        // the first HAT moves none of two, and can tell no number at all
        edge("25. 1: of these", sheets(1, 1, 1, 2, 2) + "hats(0, 1, 1, 1) = 0\nhats(0, 2, 1, 1) = 1\n");
    }

    private static void hatsWithoutPlain() {
        edge("25. NOTHING: PLAIN can't be told (what 1)", sheets(1, 7, 7, 7, 9, 7, 1) + """
            plain() = NOTHING
            ! hats(5, 40, 1, 1) = NOTHING
            ! hats(5, 40, 1, 0) = 0
            ! hats(5, 40, 1, 2) = 0
            ! hats(5, 41, 1, 1) = -2
            ! hats(-1, 40, 1, 1) = -2
            ! hats(5, 40, 11, 1) = -2
            """);
        edge("25. NOTHING: PLAIN of no SHEETS", "! hats(0, 1, 1, 1) = NOTHING\n! hats(0, 0, 1, 1) = -2\n");
        edge("25. NOTHING: PLAIN of one SHEET", sheets(1, 7, 7) + "! hats(0, 1, 1, 1) = NOTHING\n");
    }

    private static void hatsWithoutANought() {
        // of the first HAT D is 220 at 0, and Q 5600 at 3: 48,400, and k 4 5600 by 2
        edge("25. 2: how many whose USUAL SPAN by k has no 0 in it", FOUR + """
            ! hats(0, 1, 1, 2) = 1
            ! hats(0, 1, 4, 2) = 1
            ! hats(0, 1, 5, 2) = 0
            ! hats(0, 2, 4, 2) = 2
            ! hats(0, 2, 5, 2) = 0
            """);
        edge("25. 2: 0 is at the edge, and in it", sheets(3, 2, 3, 1, 2, 0, 1, 2, 4) + "by(2) = 2000\nusual(2, 3, 1) = 0\n! hats(0, 1, 3, 2) = 0\n");
        edge("25. 2: 0 is one above the edge", sheets(3, 0, 2, 2, 6, 2, 6, 2, 7) + "by(2) = 3500\nusual(2, 3, 1) = 1\n! hats(0, 1, 3, 2) = 1\n");
        edge("25. 2: a USUAL SPAN without any number", sheets(3, 5, 0, 5, 0, 5, 0, 7, 5) + "usual(2, 10, 0) = 0\n! hats(0, 1, 10, 2) = 1\n");
        edge("25. 2: a USUAL SPAN that can't be told", sheets(3, 5, 0, 5, 0, 5, 0, 6, 100) + "usual(2, 10, 0) = NOTHING\nhats(0, 1, 10, 0) = 1\n! hats(0, 1, 10, 2) = 0\n");
        edge("25. 2: fewer than three SHEETS", sheets(1, 1, 1, 2, 2) + "hats(0, 2, 1, 0) = 1\n! hats(0, 2, 1, 2) = 0\n");
    }

    private static void hatsOfNone() {
        StringBuilder lines = new StringBuilder(FOUR);
        String[] none = {"-1, 1, 1, W", "2_000_000_001, 1, 1, W", "MIN, 1, 1, W", "MAX, 1, 1, W", "0, 0, 1, W", "0, 41, 1, W", "0, -1, 1, W", "0, MIN, 1, W", "0, MAX, 1, W",
            "0, 1, 0, W", "0, 1, 11, W", "0, 1, MIN, W", "0, 1, MAX, W"};
        for (String one : none) {
            for (int what = 0; what < 3; what++) {
                lines.append("! hats(").append(one.replace("W", "" + what)).append(") = -2\n");
            }
        }
        for (String what : new String[] {"-1", "3", "MIN", "MAX"}) {
            lines.append("! hats(0, 1, 1, ").append(what).append(") = -2\n");
        }
        edge("25. -2: there are none such", lines.toString());
        edge("25. Of n HATS (1 .. 40), from a seed, by k (1 .. 10)", FOUR + """
            ! hats(0, 1, 1, 0) = 1
            ! hats(0, 40, 10, 0) = HATS
            ! hats(2_000_000_000, 40, 10, 0) = LATE
            """.replace("HATS", "" + hatsThatTell(0)).replace("LATE", "" + hatsThatTell(2000000000)));
    }

    /** Of four SHEETS with 100, 110, 120, 130: a HAT tells if it has some and not all, and not as much as the others have. */
    private static int hatsThatTell(long seed) {
        int tell = 0;
        long x = seed;
        for (int hat = 0; hat < 40; hat++) {
            int some = 0;
            int school = 0;
            for (int i = 0; i < 4; i++) {
                x = (1103515245L * x + 12345L) % 2147483648L;
                int one = (int) (x / 65536 % 2);
                some += one;
                school += one * (100 + 10 * i);
            }
            tell += some > 0 && some < 4 && school * (4 - some) != (460 - school) * some ? 1 : 0;
        }
        return tell;
    }
}
