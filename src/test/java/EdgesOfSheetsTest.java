/** Edges, sentence by sentence: DRAWS of Terms II, HELD of Terms III, and promises 9 to 14 and 36. */
public final class EdgesOfSheetsTest {
    private static final Check C = new Check("EdgesOfSheetsTest");

    public static void main(String[] args) {
        draws();
        drawnStates();
        drawnSorts();
        drawnWishes();
        drawnWages();
        drawnSchools();
        drawOfNone();
        drawWithoutALand();
        sheetOfNone();
        twoHundredSheets();
        toldOfOthers();
        wouldOfNone();
        worthAtTheEnd();
        worthOfNone();
        monthOfOthers();
        held();
        onlyOfNone();
        C.close();
    }

    private static void edge(String sentence, String lines) {
        Story.tell(C, sentence, lines);
    }

    // ---------------------------------------------------------------- Terms II: DRAWS

    private static final String LAND = "\"law enter 6 leave 15;law enter 7 leave 16;sort share 3 gift 5 wish 90 spread 9;sort share 4 gift 9 wish 140;"
        + "leak 1 by 20;noise 50;wage school times 3 plus gift;\" = 7\n";

    private static void draws() {
        edge("II. DRAWS: (at first it is the seed), and modulo 2,147,483,648 from there on", LAND + """
            # x / 65536 from the seed 0: 0, 21468, 9988, 22117, 3498, 16927, 16045, 19741, 12122, 8410
            draw(0, 2) = 2
            0: 0 1 140 463 29 140
            1: 1 2 101 285 5 92
            # from the seed 1: 16838, 5758, 10113, 17515, 31051
            draw(1, 1) = 1
            0: 0 11 140 423 9 140
            # from the seed 2,000,000,000: 3304, 7133, 3221, 19807, 6926
            draw(2_000_000_000, 1) = 1
            0: 0 6 105 328 5 97
            # a seed is all there is to it
            draw(0, 2) = 2
            1: 1 2 101 285 5 92
            """);
    }

    private static void drawnStates() {
        edge("II. its STATE of all; its MONTH (of 12, and 1)", """
            "law enter 4 leave 10;law enter 4 leave 11;law enter 4 leave 12;law enter 4 leave 13;law enter 4 leave 14;law enter 4 leave 15;sort share 1 gift 0 wish 0;" = 7
            # first draws: 0, 18655, 16838, 21381, 19564, 17747
            draw(0, 1) = 1
            told(0, 0) = 0
            draw(5, 1) = 1
            told(0, 0) = 1
            draw(1, 1) = 1
            told(0, 0) = 2
            draw(11, 1) = 1
            told(0, 0) = 3
            draw(7, 1) = 1
            told(0, 0) = 4
            draw(3, 1) = 1
            told(0, 0) = 5
            # second draws: 21468, 15203
            draw(0, 1) = 1
            told(0, 1) = 1
            draw(15, 1) = 1
            told(0, 1) = 12
            """);
    }

    private static void drawnSorts() {
        edge("II. the first SORT up to which shares together are above it", LAND + """
            # third draws of 7: 0, 2, 3, 6
            draw(20, 1) = 1
            told(0, 4) = 5
            draw(13, 1) = 1
            told(0, 4) = 5
            draw(9, 1) = 1
            told(0, 4) = 9
            draw(24, 1) = 1
            told(0, 4) = 9
            """);
        edge("II. Its GIFT is gift, and the leak of its MONTH", """
            "law enter 6 leave 15;sort share 1 gift 99 wish 0;leak 12 by 99;leak 1 by 1;leak 11 by 0;" = 5
            draw(15, 1) = 1
            told(0, 1) = 12
            told(0, 4) = 198
            draw(0, 1) = 1
            told(0, 1) = 1
            told(0, 4) = 100
            draw(1, 1) = 1
            told(0, 1) = 11
            told(0, 4) = 99
            draw(2, 1) = 1
            told(0, 1) = 6
            told(0, 4) = 99
            """);
    }

    private static void drawnWishes() {
        edge("II. of spread and 1: its WISH is wish and that", LAND + """
            # fourth draws of 10: 0, 9
            draw(15, 1) = 1
            told(0, 5) = 90
            draw(16, 1) = 1
            told(0, 5) = 99
            """);
        edge("II. of spread and 1: the greatest spread", """
            "law enter 6 leave 15;sort share 1 gift 0 wish 240 spread 60;" = 2
            # fourth draws of 61: 60, 0
            draw(16, 1) = 1
            told(0, 5) = 300
            told(0, 2) = 300
            draw(182, 1) = 1
            told(0, 5) = 240
            """);
    }

    private static void drawnWages() {
        edge("II. of twice noise and 1: its WAGE is that by the SUM and it, less noise", LAND + """
            # fifth draws of 101: 0, 50, 100
            draw(153, 1) = 1
            0: 1 11 110 285 5 95
            draw(22, 1) = 1
            0: 0 2 101 308 5 98
            draw(114, 1) = 1
            0: 1 9 140 479 9 140
            """);
        edge("II. the greatest noise", """
            "law enter 6 leave 15;sort share 1 gift 0 wish 0;wage 999 times 2;noise 999;" = 4
            # fifth draws of 1999: 0, 999, 1998
            draw(2680, 1) = 1
            told(0, 3) = 999
            draw(3054, 1) = 1
            told(0, 3) = 1998
            draw(681, 1) = 1
            told(0, 3) = 2997
            """);
        edge("II. without noise", """
            "law enter 6 leave 15;sort share 1 gift 0 wish 0;wage 77;noise 0;" = 4
            draw(681, 1) = 1
            told(0, 3) = 77
            """);
        edge("II. its WAGE .. 0 .. 9999: at 0", """
            # fifth draws of 11, less 5: the seeds 6, 19, 7, 8 have 1, 0, -1, -2
            "law enter 6 leave 15;sort share 1 gift 0 wish 0;wage 1;noise 5;" = 4
            draw(6, 1) = 1
            told(0, 3) = 2
            draw(19, 1) = 1
            told(0, 3) = 1
            draw(7, 1) = 1
            told(0, 3) = 0
            draw(8, 1) = 1
            told(0, 3) = 0
            """);
        edge("II. its WAGE .. 0 .. 9999: at 9999", """
            # 9998, and the seeds 7, 19, 6, 4, 3 have -1, 0, 1, 2, 3
            "law enter 6 leave 15;sort share 1 gift 0 wish 0;wage 999 times 10 plus 8;noise 5;" = 4
            draw(7, 1) = 1
            told(0, 3) = 9997
            draw(19, 1) = 1
            told(0, 3) = 9998
            draw(6, 1) = 1
            told(0, 3) = 9999
            draw(4, 1) = 1
            told(0, 3) = 9999
            draw(3, 1) = 1
            told(0, 3) = 9999
            """);
        edge("II. its WAGE is that by the SUM, cut to 9999 ahead of the noise", """
            "law enter 6 leave 15;sort share 1 gift 0 wish 0;wage 999 times 999;noise 5;" = 4
            draw(7, 1) = 1
            told(0, 3) = 9998
            "law enter 6 leave 15;sort share 1 gift 0 wish 0;wage 0 minus 999;noise 5;" = 4
            draw(6, 1) = 1
            told(0, 3) = 1
            "law enter 6 leave 15;sort share 1 gift 0 wish 0;wage 9 over 0;noise 5;" = 4
            draw(6, 1) = 1
            told(0, 3) = 1
            "law enter 6 leave 15;sort share 1 gift 0 wish 0;noise 5;" = 3
            draw(6, 1) = 1
            told(0, 3) = 1
            """);
    }

    private static void drawnSchools() {
        edge("II. SCHOOL: the greater of FORCED and WISH", """
            # FORCED is 99 and MONTH; the seeds 17, 2, 24 have the MONTHS 5, 6, 7
            "law enter 6 leave 15;sort share 1 gift 0 wish 105;" = 2
            draw(17, 1) = 1
            told(0, 2) = 105
            whom(0) = 0
            draw(2, 1) = 1
            told(0, 2) = 105
            whom(0) = 0
            draw(24, 1) = 1
            told(0, 2) = 106
            told(0, 5) = 105
            whom(0) = 1
            """);
    }

    // ---------------------------------------------------------------- promise 9

    private static void drawOfNone() {
        edge("9. n SHEETS (1 .. 200) in place of all", LAND + """
            draw(5, 1) = 1
            count(2) = 1
            sheet(0, 1, 2, 3) = 1
            draw(5, 200) = 200
            count(2) = 200
            told(199, 1) = 11
            told(200, 1) = NONE
            draw(5, 3) = 3
            count(2) = 3
            told(3, 1) = NONE
            ! draw(5, 0) = -2
            ! draw(5, 201) = -2
            ! draw(5, -1) = -2
            ! draw(5, MIN) = -2
            ! draw(5, MAX) = -2
            """);
        edge("9. from a seed (0 .. 2,000,000,000)", LAND + """
            draw(0, 1) = 1
            draw(2_000_000_000, 1) = 1
            ! draw(-1, 1) = -2
            ! draw(2_000_000_001, 1) = -2
            ! draw(MIN, 1) = -2
            ! draw(MAX, 1) = -2
            """);
    }

    private static void drawWithoutALand() {
        edge("9. -6: the LAND has no law, or no sort", LAND + """
            draw(5, 2) = 2
            "law enter 6 leave 15;wage 1;noise 1;" = 3
            ! draw(5, 1) = -6
            ! draw(5, 0) = -2
            ! draw(-1, 1) = -2
            "sort share 1 gift 2 wish 3;" = 1
            ! draw(5, 1) = -6
            ! draw(5, 201) = -2
            land() = 0
            ! draw(5, 200) = -6
            count(2) = 2
            "law enter 6 leave 15;sort share 1 gift 2 wish 3;" = 2
            draw(5, 1) = 1
            """);
    }

    // ---------------------------------------------------------------- promises 10 and 11

    private static void sheetOfNone() {
        edge("10. SCHOOL 0 .. 300", """
            "law enter 6 leave 15;law enter 6 leave 15;" = 2
            sheet(0, 1, 0, 5) = 0
            sheet(0, 1, 300, 5) = 1
            ! sheet(0, 1, -1, 5) = -2
            ! sheet(0, 1, 301, 5) = -2
            ! sheet(0, 1, MIN, 5) = -2
            ! sheet(0, 1, MAX, 5) = -2
            0: 0 1 0 5 0 0
            1: 0 1 300 5 0 300
            """);
        edge("10. WAGE 0 .. 9999", """
            "law enter 6 leave 15;law enter 6 leave 15;" = 2
            sheet(0, 1, 5, 0) = 0
            sheet(0, 1, 5, 9999) = 1
            ! sheet(0, 1, 5, -1) = -2
            ! sheet(0, 1, 5, 10000) = -2
            ! sheet(0, 1, 5, MIN) = -2
            ! sheet(0, 1, 5, MAX) = -2
            0: 0 1 5 0 0 5
            1: 0 1 5 9999 0 5
            """);
        edge("10. -2: there are none such (STATE, MONTH, too)", """
            "law enter 6 leave 15;law enter 6 leave 15;" = 2
            sheet(0, 1, 5, 5) = 0
            sheet(1, 12, 5, 5) = 1
            ! sheet(-1, 1, 5, 5) = -2
            ! sheet(2, 1, 5, 5) = -2
            ! sheet(MIN, 1, 5, 5) = -2
            ! sheet(MAX, 1, 5, 5) = -2
            ! sheet(0, 0, 5, 5) = -2
            ! sheet(0, 13, 5, 5) = -2
            ! sheet(0, MIN, 5, 5) = -2
            ! sheet(0, MAX, 5, 5) = -2
            land() = 0
            ! sheet(0, 1, 5, 5) = -2
            """);
        edge("10. its WISH is that SCHOOL, its GIFT 0", """
            "law enter 6 leave 15;sort share 1 gift 9 wish 240 spread 60;leak 3 by 99;wage 7;noise 9;" = 5
            sheet(0, 3, 10, 20) = 0
            0: 0 3 10 20 0 10
            """);
    }

    private static void twoHundredSheets() {
        edge("10. A SHEET is told behind the others: its number. -3: there are 200", """
            "law enter 6 leave 15;sort share 1 gift 2 wish 3;" = 2
            draw(1, 198) = 198
            sheet(0, 12, 7, 8) = 198
            sheet(0, 11, 9, 10) = 199
            ! sheet(0, 1, 1, 1) = -3
            ! sheet(0, 1, 301, 1) = -2
            ! sheet(1, 1, 1, 1) = -2
            count(2) = 200
            198: 0 12 7 8 0 7
            199: 0 11 9 10 0 9
            draw(1, 1) = 1
            sheet(0, 1, 1, 1) = 1
            """);
        edge("10. 200 that are told one by one", """
            "law enter 6 leave 15;" = 1
            199 x sheet(0, 1, 5, 6)
            sheet(0, 1, 5, 6) = 199
            sheet(0, 1, 5, 6) = -3
            count(2) = 200
            """);
    }

    private static void toldOfOthers() {
        edge("11. NONE for others", LAND + """
            ! told(0, 0) = NONE
            draw(0, 2) = 2
            ! told(0, 0) = 0
            ! told(1, 5) = 92
            ! told(-1, 0) = NONE
            ! told(2, 0) = NONE
            ! told(MIN, 0) = NONE
            ! told(MAX, 0) = NONE
            ! told(0, -1) = NONE
            ! told(0, 6) = NONE
            ! told(0, MIN) = NONE
            ! told(0, MAX) = NONE
            draw(0, 200) = 200
            told(200, 0) = NONE
            draw(0, 1) = 1
            # what was SHEET 1 is there no more
            told(1, 0) = NONE
            """);
    }

    // ---------------------------------------------------------------- promises 12 and 13

    private static void wouldOfNone() {
        String lines = """
            "law enter 6 leave 15;law enter 6 leave 16;" = 2
            sheet(0, 1, 105, 1) = 0
            sheet(1, 1, 300, 1) = 1
            """;
        edge("12. the greater of FORCED there and its WISH", lines + """
            ! would(0, 5) = 105
            ! would(0, 6) = 105
            ! would(0, 7) = 106
            ! would(0, 1) = 105
            ! would(0, 12) = 111
            ! would(1, 12) = 300
            """);
        edge("12. -2: there are none such, its STATE is none now", lines + """
            ! would(0, 0) = -2
            ! would(0, 13) = -2
            ! would(0, MIN) = -2
            ! would(0, MAX) = -2
            ! would(-1, 1) = -2
            ! would(2, 1) = -2
            ! would(MIN, 1) = -2
            ! would(MAX, 1) = -2
            "law enter 6 leave 20;" = 1
            ! would(1, 1) = -2
            ! would(0, 1) = 160
            land() = 0
            ! would(0, 1) = -2
            "law enter 6 leave 15;law enter 6 leave 15;" = 2
            ! would(1, 1) = 300
            """);
    }

    private static void worthAtTheEnd() {
        edge("13. by its SCHOOL and 1 (300 at most)", """
            "law enter 6 leave 15;wage school times school over 100;" = 2
            sheet(0, 1, 298, 1) = 0
            sheet(0, 1, 299, 1) = 1
            sheet(0, 1, 300, 1) = 2
            sheet(0, 1, 0, 1) = 3
            sheet(0, 1, 9, 1) = 4
            # 888, 894, 900; 0, 0; 0, 1
            ! worth(0) = 6
            ! worth(1) = 6
            ! worth(2) = 0
            ! worth(3) = 0
            ! worth(4) = 1
            """);
        edge("13. WAGE without noise, 0 .. 9999 at each SCHOOL", """
            "law enter 6 leave 15;wage school times 100;noise 999;" = 3
            sheet(0, 1, 98, 1) = 0
            sheet(0, 1, 99, 1) = 1
            sheet(0, 1, 100, 1) = 2
            worth(0) = 100
            worth(1) = 99
            worth(2) = 0
            "law enter 6 leave 15;wage 100 minus school;" = 2
            worth(0) = -1
            worth(1) = -1
            worth(2) = 0
            "law enter 6 leave 15;wage 999 over 0;" = 2
            worth(0) = 0
            # beyond 1,000,000,000 with one month more: 999 times 999 times 10 times 100, and 101
            "law enter 6 leave 15;wage 999 times 999 times 10 times school over 999 over 999;" = 2
            worth(1) = 10
            worth(2) = -1000
            """);
    }

    private static void worthOfNone() {
        edge("13. NOTHING (-2,000,000,000): there is none such, its STATE is none now", """
            ! worth(0) = -2_000_000_000
            "law enter 6 leave 15;law enter 6 leave 16;wage school times 3;" = 3
            sheet(0, 1, 5, 1) = 0
            sheet(1, 1, 5, 1) = 1
            ! worth(1) = 3
            ! worth(-1) = NOTHING
            ! worth(2) = NOTHING
            ! worth(MIN) = NOTHING
            ! worth(MAX) = NOTHING
            "law enter 6 leave 15;wage school times 4;" = 2
            ! worth(0) = 4
            ! worth(1) = NOTHING
            land() = 0
            ! worth(0) = NOTHING
            """);
    }

    // ---------------------------------------------------------------- promises 14 and 36

    private static void monthOfOthers() {
        edge("14. Of SHEETS of a MONTH (0: of all)", """
            "law enter 6 leave 15;" = 1
            ! month(0, 0) = 0
            ! month(0, 1) = 0
            ! month(0, 2) = 0
            ! month(0, 3) = 0
            sheet(0, 1, 99, 7) = 0
            sheet(0, 12, 120, 8) = 1
            sheet(0, 12, 110, 9) = 2
            ! month(0, 0) = 3
            month(0, 1) = 329
            month(0, 2) = 24
            month(0, 3) = 2
            month(1, 0) = 1
            month(1, 1) = 99
            month(1, 2) = 7
            month(1, 3) = 1
            month(12, 0) = 2
            month(12, 1) = 230
            month(12, 2) = 17
            month(12, 3) = 1
            month(2, 0) = 0
            month(2, 1) = 0
            month(2, 2) = 0
            month(2, 3) = 0
            """);
        edge("14. NONE for others", """
            "law enter 6 leave 15;" = 1
            sheet(0, 1, 99, 7) = 0
            ! month(-1, 0) = NONE
            ! month(13, 0) = NONE
            ! month(MIN, 0) = NONE
            ! month(MAX, 0) = NONE
            ! month(1, -1) = NONE
            ! month(1, 4) = NONE
            ! month(1, MIN) = NONE
            ! month(1, MAX) = NONE
            ! month(13, 4) = NONE
            """);
        edge("14. of as many as there may be", """
            "law enter 6 leave 15;" = 1
            200 x sheet(0, 5, 300, 9999)
            month(5, 0) = 200
            month(5, 1) = 60000
            month(0, 2) = 1999800
            month(0, 3) = 0
            """);
    }

    private static void held() {
        edge("III. HELD: SHEETS with FORCED above their WISH (their STATE there now)", """
            # FORCED is 100 in MONTH 1
            "law enter 6 leave 15;law enter 6 leave 15;" = 2
            sheet(0, 1, 99, 7) = 0
            sheet(0, 1, 100, 7) = 1
            sheet(0, 1, 101, 7) = 2
            sheet(1, 1, 99, 7) = 3
            sheet(1, 1, 0, 7) = 4
            ! month(1, 3) = 3
            ! whom(0) = 3
            "law enter 6 leave 15;" = 1
            ! month(1, 3) = 1
            ! whom(0) = 1
            # by the laws of now: 100 in STATE 0, 184 in STATE 1
            "law enter 6 leave 15;law enter 4 leave 20;" = 2
            whom(0) = 3
            "law enter 9 leave 10;" = 1
            whom(0) = 0
            land() = 0
            ! month(0, 3) = 0
            ! whom(0) = 0
            """);
    }

    private static void onlyOfNone() {
        String lines = """
            "law enter 6 leave 15;law enter 6 leave 16;law enter 6 leave 17;" = 3
            sheet(0, 1, 1, 11) = 0
            sheet(1, 2, 2, 12) = 1
            sheet(0, 3, 3, 13) = 2
            sheet(1, 4, 4, 14) = 3
            """;
        edge("36. -2: there is none such", lines + """
            ! only(-1) = -2
            ! only(3) = -2
            ! only(6) = -2
            ! only(MIN) = -2
            ! only(MAX) = -2
            count(2) = 4
            "law enter 6 leave 15;" = 1
            # SHEETS of it are there, the STATE is not
            ! only(1) = -2
            land() = 0
            ! only(0) = -2
            """);
        edge("36. SHEETS of a STATE alone stay (as they stand): how many", lines + """
            only(1) = 2
            0: 1 2 2 12 0 2
            1: 1 4 4 14 0 4
            told(2, 0) = NONE
            count(2) = 2
            ! only(1) = 2
            sheet(0, 5, 5, 15) = 2
            only(2) = 0
            count(2) = 0
            ! only(0) = 0
            """);
        edge("36. of all 200, and of none of them", """
            "law enter 6 leave 15;law enter 6 leave 16;" = 2
            200 x sheet(1, 5, 300, 9999)
            only(1) = 200
            only(0) = 0
            sheet(0, 5, 1, 1) = 0
            """);
        edge("36. a drawn SHEET stays with its GIFT and WISH", LAND + """
            draw(0, 2) = 2
            only(1) = 1
            0: 1 2 101 285 5 92
            """);
    }
}
