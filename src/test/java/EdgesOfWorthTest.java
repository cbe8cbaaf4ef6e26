/** Edges, sentence by sentence: Terms III, and promises 15 to 21 and 26 to 28. */
public final class EdgesOfWorthTest {
    private static final Check C = new Check("EdgesOfWorthTest");
    private static final String FOUR = """
        "law enter 6 leave 15;law enter 6 leave 16;" = 2
        sheet(0, 1, 100, 300) = 0
        sheet(0, 1, 110, 310) = 1
        sheet(0, 12, 120, 400) = 2
        sheet(0, 12, 130, 410) = 3
        """;

    public static void main(String[] args) {
        bitsOfAPush();
        pushesOfNone();
        noneMovedOrAll();
        plainThatCanNotBeTold();
        plainAtItsEnds();
        byThatCanNotBeTold();
        byAtItsEnds();
        manyThatCanNotBeTold();
        manyIsCut();
        groupsAtTheirEnds();
        movesAndLeakAreCut();
        strongWithoutARest();
        strongOfFewSheets();
        strongestMonths();
        leakedAtItsBounds();
        homesOfGifts();
        C.close();
    }

    private static void edge(String sentence, String lines) {
        Story.tell(C, sentence, lines);
    }

    // ---------------------------------------------------------------- a PUSH

    private static void bitsOfAPush() {
        StringBuilder lines = new StringBuilder("\"law enter 6 leave 15;\" = 1\n");
        for (int month = 1; month <= 12; month++) {
            lines.append("sheet(0, ").append(month).append(", ").append(11 * month).append(", 5) = ").append(month - 1).append("\n");
        }
        // one MONTH has 11 times its number, the others 78 less it
        for (int month = 1; month <= 12; month++) {
            lines.append("! moves(").append(1 << (month - 1)).append(") = ").append(1000 * (12 * month - 78)).append("\n");
            lines.append("moves(").append(4095 - (1 << (month - 1))).append(") = ").append(-1000 * (12 * month - 78)).append("\n");
        }
        edge("III. bit 0 is MONTH 1", lines.toString());
    }

    private static void pushesOfNone() {
        String[] asks = {"by(P)", "moves(P)", "strong(P)", "leak(P)", "homes(P)", "leaked(P, 0)", "leaked(P, 5)"};
        int[] promises = {16, 19, 20, 26, 28, 27, 27};
        for (int i = 0; i < asks.length; i++) {
            StringBuilder lines = new StringBuilder(FOUR);
            for (String push : new String[] {"0", "-1", "-2048", "4095", "4096", "6144", "MIN", "MAX"}) {
                lines.append("! ").append(asks[i].replace("P", push)).append(" = NOTHING\n");
            }
            edge(promises[i] + ". there is no such PUSH (1 .. 4094)", lines.toString());
        }
        edge("III. A PUSH is 1 .. 4094", FOUR + """
            ! by(1) = 5000
            ! by(4094) = 5000
            ! moves(1) = -20000
            ! moves(4094) = 20000
            ! strong(1) = 800
            ! strong(4094) = 800
            ! leak(1) = -100000
            ! leak(4094) = 100000
            ! homes(1) = 0
            ! homes(4094) = 0
            ! leaked(1, 0) = 5000
            ! leaked(4094, 0) = 5000
            """);
    }

    private static void noneMovedOrAll() {
        String[] asks = {"by(P)", "moves(P)", "strong(P)", "leak(P)", "homes(P)", "leaked(P, 0)"};
        int[] promises = {16, 19, 20, 26, 28, 27};
        for (int i = 0; i < asks.length; i++) {
            String none = "! " + asks[i].replace("P", "2") + " = NOTHING\n! " + asks[i].replace("P", "2046") + " = NOTHING\n";
            String all = "! " + asks[i].replace("P", "2049") + " = NOTHING\n! " + asks[i].replace("P", "4093") + " = NOTHING\n";
            edge(promises[i] + ". NOTHING: none are MOVED", FOUR + none);
            edge(promises[i] + ". NOTHING: all are MOVED", FOUR + all);
            edge(promises[i] + ". NOTHING: there are no SHEETS", "! " + asks[i].replace("P", "1") + " = NOTHING\n");
        }
    }

    // ---------------------------------------------------------------- promise 15

    private static void plainThatCanNotBeTold() {
        edge("15. NOTHING: it can't be told, if the lower one is 0", """
            ! plain() = NOTHING
            "law enter 6 leave 15;" = 1
            ! plain() = NOTHING
            sheet(0, 1, 7, 5) = 0
            ! plain() = NOTHING
            sheet(0, 2, 7, 9) = 1
            ! plain() = NOTHING
            sheet(0, 2, 7, 30) = 2
            ! plain() = NOTHING
            sheet(0, 2, 8, 30) = 3
            # 4 (35 + 63 + 210 + 240) - 29 74 by 4 (49 3 + 64) - 29 29: 46 by 3
            ! plain() = 15333
            land() = 0
            ! plain() = 15333
            """);
    }

    private static void plainAtItsEnds() {
        edge("III. 1000 times the upper by the lower number, cut towards 0", """
            "law enter 6 leave 15;" = 1
            sheet(0, 1, 0, 0) = 0
            sheet(0, 1, 3, 2) = 1
            plain() = 666
            new
            "law enter 6 leave 15;" = 1
            sheet(0, 1, 0, 2) = 0
            sheet(0, 1, 3, 0) = 1
            plain() = -666
            new
            "law enter 6 leave 15;" = 1
            sheet(0, 1, 0, 2) = 0
            sheet(0, 1, 3, 2) = 1
            plain() = 0
            """);
        edge("15. of as many and as great as there may be", """
            "law enter 6 leave 15;" = 1
            100 x sheet(0, 1, 0, 0)
            100 x sheet(0, 2, 300, 9999)
            plain() = 33330
            by(2) = 33330
            many() = 33330
            moves(1) = -300000
            leak(1) = -9999000
            strong(1) = 999_999_999
            new
            "law enter 6 leave 15;" = 1
            199 x sheet(0, 1, 0, 9999)
            sheet(0, 2, 1, 0) = 199
            plain() = -9999000
            by(2) = -9999000
            """);
    }

    // ---------------------------------------------------------------- promise 16

    private static void byThatCanNotBeTold() {
        edge("16. NOTHING: it can't be told, if the lower one is 0", """
            "law enter 6 leave 15;" = 1
            sheet(0, 1, 7, 5) = 0
            sheet(0, 2, 7, 9) = 1
            ! by(1) = NOTHING
            ! leaked(1, 5) = NOTHING
            ! moves(1) = 0
            ! leak(1) = -4000
            # 2 by 2 and 1 by 1 are one mean: s m less t n is 0
            sheet(0, 2, 6, 9) = 2
            sheet(0, 2, 8, 9) = 3
            ! by(1) = NOTHING
            ! by(2) = NOTHING
            sheet(0, 2, 8, 9) = 4
            # n 1, s 7, w 5; m 4, t 29, v 36: (20 - 36) by (28 - 29)
            ! by(1) = 16000
            """);
    }

    private static void byAtItsEnds() {
        edge("III. BY A PUSH, cut towards 0", """
            "law enter 6 leave 15;" = 1
            sheet(0, 1, 0, 0) = 0
            sheet(0, 2, 3, 2) = 1
            by(1) = 666
            by(2) = 666
            new
            "law enter 6 leave 15;" = 1
            sheet(0, 1, 0, 2) = 0
            sheet(0, 2, 3, 0) = 1
            by(1) = -666
            by(2) = -666
            """);
        edge("III. BY A PUSH, by the least gap", """
            "law enter 6 leave 15;" = 1
            # n 2, s 1, w 19998; m 3, t 1, v 0: 59994 by 3 - 2
            sheet(0, 1, 1, 9999) = 0
            sheet(0, 1, 0, 9999) = 1
            sheet(0, 2, 1, 0) = 2
            2 x sheet(0, 2, 0, 0)
            by(1) = 59994000
            by(2) = 59994000
            """);
        edge("16. a sum may come to what NOTHING is, and be told", """
            "law enter 6 leave 15;wage school times 3;" = 2
            # n 16, s 15, w 0; m 15, t 14, v 125000: -2000000 by 15 15 - 14 16
            15 x sheet(0, 1, 1, 0)
            sheet(0, 1, 0, 0) = 15
            12 x sheet(0, 2, 1, 9999)
            2 x sheet(0, 2, 1, 2506)
            sheet(0, 2, 0, 0) = 30
            month(2, 2) = 125000
            by(1) = -2_000_000_000
            truth(true) = 3000
            leans(1, 1) = -2_000_003_000
            """);
    }

    // ---------------------------------------------------------------- promises 17 and 18

    private static void manyThatCanNotBeTold() {
        edge("17. NOTHING: it can't be told", """
            ! many() = NOTHING
            "law enter 6 leave 15;law enter 6 leave 15;" = 2
            sheet(0, 1, 7, 5) = 0
            ! many() = NOTHING
            sheet(0, 2, 7, 6) = 1
            ! many() = NOTHING
            sheet(1, 2, 7, 9) = 2
            ! many() = NOTHING
            sheet(1, 3, 8, 9) = 3
            # 4 (35 + 42 + 63 + 72) - 29 29 by 4 (49 3 + 64) - 29 29
            ! many() = 2333
            """);
    }

    private static void manyIsCut() {
        edge("III. A, B: .. by n (cut) together", """
            "law enter 6 leave 15;law enter 6 leave 15;" = 2
            # s w by n: 7 21 by 2 = 73, 28 75 by 3 = 700, 2; s s by n: 24, 261, 1
            sheet(0, 1, 3, 10) = 0
            sheet(0, 1, 4, 11) = 1
            sheet(1, 1, 9, 20) = 2
            sheet(1, 1, 9, 25) = 3
            sheet(1, 1, 10, 30) = 4
            sheet(0, 2, 1, 2) = 5
            # (6 775 - 36 98) by (6 286 - 36 36)
            many() = 2671
            """);
        edge("III. one group alone, by what is cut of it", """
            "law enter 6 leave 15;" = 1
            sheet(0, 1, 1, 0) = 0
            sheet(0, 1, 0, 1) = 1
            # (2 0 - 1 1) by (2 0 - 1 1)
            many() = 1000
            sheet(0, 1, 2, 5) = 2
            # (3 6 - 3 6) by (3 3 - 3 3)
            many() = NOTHING
            """);
        edge("III. MANY, cut towards 0", """
            "law enter 6 leave 15;" = 1
            sheet(0, 1, 0, 2) = 0
            sheet(0, 2, 3, 0) = 1
            many() = -666
            """);
    }

    private static void groupsAtTheirEnds() {
        StringBuilder lines = new StringBuilder("""
            ! groups() = 0
            6 x "law enter 6 leave 15;" = 6
            """);
        for (int state = 0; state < 6; state++) {
            for (int month = 1; month <= 12; month++) {
                lines.append("2 x sheet(").append(state).append(", ").append(month).append(", 5, 5)\n");
            }
            lines.append("groups() = ").append(12 * (state + 1)).append("\n");
        }
        edge("18. How many groups MANY has: none, and all there may be", lines + """
            many() = NOTHING
            only(5) = 24
            groups() = 12
            land() = 0
            ! groups() = 12
            """);
        edge("III. groups of SHEETS of one STATE and MONTH", """
            "law enter 6 leave 15;law enter 6 leave 15;" = 2
            sheet(0, 12, 5, 5) = 0
            ! groups() = 1
            sheet(0, 12, 9, 5) = 1
            groups() = 1
            sheet(1, 12, 5, 5) = 2
            groups() = 2
            sheet(1, 1, 5, 5) = 3
            groups() = 3
            sheet(0, 1, 5, 5) = 4
            groups() = 4
            """);
    }

    // ---------------------------------------------------------------- promises 19 to 21

    private static void movesAndLeakAreCut() {
        edge("19. the mean of those MOVED less that of the others, in thousandths, cut towards 0", """
            "law enter 6 leave 15;" = 1
            sheet(0, 1, 1, 0) = 0
            sheet(0, 2, 1, 1) = 1
            2 x sheet(0, 2, 0, 0)
            # 1 and a third; 0 and a third
            moves(1) = 666
            moves(2) = -666
            leak(1) = -333
            leak(2) = 333
            """);
        edge("26. a leak as great makes all of it", FOUR + """
            ! leak(2048) = 100000
            leaked(2048, 100000) = 0
            leaked(2048, 99999) = 0
            leaked(2048, 99980) = 1
            leaked(2048, 100001) = 0
            leaked(2048, 100020) = -1
            """);
    }

    private static void strongWithoutARest() {
        edge("III. if Q is 0: 0 if D is 0, else 999,999,999", """
            "law enter 6 leave 15;" = 1
            2 x sheet(0, 1, 5, 1)
            sheet(0, 2, 5, 3) = 2
            ! strong(1) = 0
            sheet(0, 3, 6, 3) = 3
            ! strong(4) = 999_999_999
            ! strong(3) = 999_999_999
            # n 1, s 5; m 3, t 16; D -1; Q 3 111 - 75 - 256 = 2; 2 1 by 4 2
            ! strong(2) = 25
            """);
        edge("20. STRONG, in hundredths, cut", """
            "law enter 6 leave 15;" = 1
            2 x sheet(0, 1, 5, 1)
            sheet(0, 2, 6, 3) = 2
            sheet(0, 2, 8, 3) = 3
            # n 2, s 14; m 2, t 10: D 8; Q 4 150 - 392 - 200 = 8; 2 64 by 4 8
            strong(2) = 400
            sheet(0, 2, 9, 3) = 4
            # n 3, s 23; m 2: D 16; Q 6 231 - 1058 - 300 = 28; 3 256 by 5 28 = 5.4857
            strong(2) = 548
            strong(1) = 548
            """);
        edge("20. by as much as there may be, with a rest", """
            "law enter 6 leave 15;" = 1
            sheet(0, 1, 1, 1) = 0
            99 x sheet(0, 1, 0, 1)
            100 x sheet(0, 2, 300, 1)
            # D 2999900; Q 10000 9000001 - 100 - 90000000000 = 9900; 100 198 D D by 200 Q
            strong(2) = 89994000100
            """);
    }

    private static void strongOfFewSheets() {
        edge("20. NOTHING likewise, and with fewer than three SHEETS", """
            ! strong(1) = NOTHING
            "law enter 6 leave 15;" = 1
            sheet(0, 1, 5, 1) = 0
            ! strong(1) = NOTHING
            sheet(0, 2, 9, 1) = 1
            ! strong(1) = NOTHING
            ! strong(2) = NOTHING
            sheet(0, 2, 7, 1) = 2
            # n 1, s 5; m 2, t 16; D -6; Q 2 155 - 50 - 256 = 4; 1 36 by 3 4
            ! strong(1) = 300
            land() = 0
            ! strong(1) = 300
            """);
    }

    private static void strongestMonths() {
        edge("21. NONE: none can be told", """
            ! strongest() = NONE
            "law enter 6 leave 15;" = 1
            sheet(0, 5, 1, 1) = 0
            ! strongest() = NONE
            sheet(0, 6, 9, 1) = 1
            ! strongest() = NONE
            new
            "law enter 6 leave 15;" = 1
            3 x sheet(0, 5, 1, 1)
            ! strongest() = NONE
            sheet(0, 4, 1, 1) = 3
            # all are STRONG by 0: the first of those that have SHEETS
            ! strongest() = 4
            """);
        edge("21. the first of several", """
            "law enter 6 leave 15;" = 1
            sheet(0, 12, 9, 1) = 0
            sheet(0, 3, 1, 1) = 1
            sheet(0, 7, 5, 1) = 2
            # 3 and 12 are as STRONG: n 1, m 2: D 12, Q 16; 7: D 0
            strong(4) = 300
            strong(2048) = 300
            strong(64) = 0
            ! strongest() = 3
            """);
        edge("21. MONTH 1, and MONTH 12", """
            "law enter 6 leave 15;" = 1
            sheet(0, 1, 9, 1) = 0
            sheet(0, 6, 1, 1) = 1
            sheet(0, 12, 2, 1) = 2
            strongest() = 1
            new
            "law enter 6 leave 15;" = 1
            sheet(0, 12, 9, 1) = 0
            sheet(0, 6, 1, 1) = 1
            sheet(0, 1, 2, 1) = 2
            strongest() = 12
            """);
    }

    // ---------------------------------------------------------------- promises 27 and 28

    private static void leakedAtItsBounds() {
        edge("27. if so many thousandths (-9,999,999 .. 9,999,999) had leaked", FOUR + """
            # (1000 400 - v 4) by 80
            ! leaked(2048, 9_999_999) = -494999
            ! leaked(2048, -9_999_999) = 504999
            ! leaked(2048, 10_000_000) = NOTHING
            ! leaked(2048, -10_000_000) = NOTHING
            ! leaked(2048, MIN) = NOTHING
            ! leaked(2048, MAX) = NOTHING
            ! leaked(2048, 0) = 5000
            ! leaked(1, 100000) = 10000
            """);
        edge("27. in thousandths, cut", FOUR + """
            leaked(2048, 1) = 4999
            leaked(2048, -1) = 5000
            leaked(2048, 19) = 4999
            leaked(2048, 20) = 4999
            leaked(2048, 21) = 4998
            leaked(2048, 100019) = 0
            leaked(2048, 100020) = -1
            leaked(2048, 100039) = -1
            leaked(2048, 100040) = -2
            """);
        edge("27. of as many as there may be", """
            "law enter 6 leave 15;" = 1
            100 x sheet(0, 1, 0, 0)
            99 x sheet(0, 2, 0, 0)
            sheet(0, 2, 1, 9999) = 199
            # D 100; (1000 9999 100 - 9999999 10000) by 100
            leaked(2, 9_999_999) = -990000900
            leaked(2, -9_999_999) = 1009998900
            """);
    }

    private static void homesOfGifts() {
        edge("28. the mean of GIFT of those MOVED less that of the others, cut towards 0", """
            "law enter 6 leave 15;sort share 1 gift 10 wish 0;leak 1 by 1;leak 2 by 2;" = 4
            # the MONTHS from the seed 0 on: 1, 2, 5, 5
            draw(0, 4) = 4
            told(0, 4) = 11
            told(1, 4) = 12
            told(2, 4) = 10
            # MONTH 1: 11 less 32 by 3; MONTH 2: 12 less 31 by 3; both: 11.5 less 10
            ! homes(1) = 333
            homes(4094) = -333
            homes(2) = 1666
            homes(4093) = -1666
            homes(3) = 1500
            """);
    }
}
