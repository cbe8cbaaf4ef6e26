import java.util.Arrays;

/** Edges, sentence by sentence: SLOTS of Terms I, and promises 37 to 44. */
public final class EdgesOfSlotsTest {
    private static final Check C = new Check("EdgesOfSlotsTest");
    private static final String LAW = "\"law enter 6 leave 15;\" = 1\n";

    public static void main(String[] args) {
        judgeOfNone();
        judgeFromTheFirstOn();
        judgeByWidth();
        sheetsOfNone();
        sheetsTillOneIsRefused();
        sheetsUpToTwoHundred();
        sheetsByWidth();
        counts();
        keepOfNone();
        backOfNone();
        imagesOfEachTheirOwn();
        imagesKeepNothingElse();
        rowOfNone();
        rowsOfAllLengths();
        writeOfNone();
        writesAreCut();
        pasteOfNone();
        pasteBeyond();
        pastesAsTheyWere();
        pastesOfNothing();
        C.close();
    }

    private static void edge(String sentence, String lines) {
        Story.tell(C, sentence, lines);
    }

    private static String row(int slot, int width, long... numbers) {
        StringBuilder lines = new StringBuilder("row(" + slot + ", " + width + ", " + numbers.length + ") = 0\n");
        for (int i = 0; i < numbers.length; i++) {
            if (numbers[i] != 0) {
                lines.append("write(").append(slot).append(", ").append(i).append(", ").append(numbers[i]).append(") = 0\n");
            }
        }
        return lines.toString();
    }

    /** SHEETS with these as SCHOOL, and no others. */
    private static String schools(int... schools) {
        StringBuilder lines = new StringBuilder("\"law enter 6 leave 15;law enter 6 leave 15;\" = 2\nonly(1)\nonly(0)\n");
        for (int school : schools) {
            lines.append("sheet(0, 1, ").append(school).append(", 0)\n");
        }
        return lines.toString();
    }

    /** The row has these numbers ahead (0 .. 300), as far as judge() can see. */
    private static String rowIs(int slot, int... numbers) {
        return schools(numbers) + "judge(" + slot + ") = " + numbers.length + "\n";
    }

    // ---------------------------------------------------------------- promise 37

    private static void judgeOfNone() {
        edge("37. -2: there is no such SLOT; -6: it has nothing", LAW + """
            sheet(0, 1, 0, 5) = 0
            ! judge(-1) = -2
            ! judge(4) = -2
            ! judge(MIN) = -2
            ! judge(MAX) = -2
            ! judge(0) = -6
            ! judge(3) = -6
            row(3, 0, 1) = 0
            ! judge(3) = 1
            ! judge(2) = -6
            """);
    }

    private static void judgeFromTheFirstOn() {
        edge("37. How many numbers are SCHOOL of SHEETS from the first on, ahead of the first that is not", row(0, 1, 100, 200, 0, 7, 300) + schools(100, 200, 0, 8, 300)
            + "! judge(0) = 3\n" + schools(100, 200, 0, 7, 300) + "! judge(0) = 5\n" + schools(101, 200, 0, 7, 300) + "! judge(0) = 0\n");
        edge("37. (beyond the SHEETS: not)", row(0, 1, 100, 0, 0, 0) + "! judge(0) = 0\n" + schools(100, 0) + "! judge(0) = 2\n" + schools() + "! judge(0) = 0\n");
        edge("37. beyond the row", row(0, 1, 100, 0) + schools(100, 0, 0, 0) + "! judge(0) = 2\n");
        edge("37. a row of no numbers", row(0, 1) + schools(0, 0) + "! judge(0) = 0\n");
        edge("37. a row of 60", LAW + "row(0, 0, 60) = 0\n200 x sheet(0, 1, 0, 0)\n! judge(0) = 60\nwrite(0, 59, 1) = 0\n! judge(0) = 59\n");
    }

    private static void judgeByWidth() {
        edge("37. SCHOOL of 128 and more is no number of one byte", row(0, 0, 127, 128) + schools(127, 128) + "judge(0) = 1\n");
        edge("37. but of two bytes", row(0, 1, 127, 128, 300) + schools(127, 128, 300) + "judge(0) = 3\n");
        edge("37. eight bytes are looked at in full", row(0, 3, 7 + (1L << 32)) + schools(7) + "judge(0) = 0\n");
        edge("37. eight bytes are looked at in full", row(0, 3, 7 + (1L << 62), 7) + schools(7, 7) + "judge(0) = 0\n");
    }

    // ---------------------------------------------------------------- promise 38

    private static void sheetsOfNone() {
        edge("38. -2: there is no such SLOT; -6: it has nothing", LAW + """
            ! sheets(-1) = -2
            ! sheets(4) = -2
            ! sheets(MIN) = -2
            ! sheets(MAX) = -2
            ! sheets(0) = -6
            ! sheets(3) = -6
            row(3, 0, 4) = 0
            ! sheets(3) = 0
            write(3, 1, 1) = 0
            sheets(3) = 1
            ! sheets(2) = -6
            """);
    }

    private static void sheetsTillOneIsRefused() {
        edge("38. four numbers each (STATE, MONTH, SCHOOL, WAGE)", "\"law enter 6 leave 15;law enter 6 leave 15;\" = 2\nsheet(0, 9, 9, 9) = 0\n"
            + row(2, 1, 1, 12, 300, 9999, 0, 1, 0, 0) + "sheets(2) = 2\ncount(2) = 3\n0: 0 9 9 9 0 9\n1: 1 12 300 9999 0 300\n2: 0 1 0 0 0 0\n");
        for (int left = 0; left < 4; left++) {
            // with a WAGE of 0 behind them, three that are left over would be a SHEET
            long[] numbers = Arrays.copyOf(new long[] {0, 3, 0, 0, 0, 4, 0, 0, 0, 5, 6}, 8 + left);
            edge("38. one or more left over not looked at: " + left, LAW + row(0, 1, numbers) + "sheets(0) = 2\ncount(2) = 2\n");
        }
        for (int n = 0; n < 4; n++) {
            edge("38. fewer than four are none: " + n, LAW + row(0, 1, Arrays.copyOf(new long[] {0, 5, 6}, n)) + "! sheets(0) = 0\n");
        }
        String[] refused = {"4, -1", "4, 1", "5, 0", "5, 13", "6, -1", "6, 301", "7, -1", "7, 10000"};
        for (String one : refused) {
            edge("38. till one is refused: " + one, LAW + row(0, 1, 0, 1, 5, 6, 0, 2, 7, 8, 0, 3, 9, 10) + "write(0, " + one + ") = 0\nsheets(0) = 1\ncount(2) = 1\n0: 0 1 5 6 0 5\n");
        }
        edge("38. the first is refused", LAW + row(0, 1, 0, 0, 5, 6, 0, 2, 7, 8) + "! sheets(0) = 0\n");
        edge("38. there is no LAND", row(0, 1, 0, 1, 5, 6) + "! sheets(0) = 0\n");
    }

    private static void sheetsUpToTwoHundred() {
        edge("38. till one is refused: there are 200", LAW + row(0, 1, 0, 1, 5, 6, 0, 2, 7, 8, 0, 3, 9, 10) + """
            198 x sheet(0, 5, 5, 5)
            sheets(0) = 2
            count(2) = 200
            198: 0 1 5 6 0 5
            199: 0 2 7 8 0 7
            ! sheets(0) = 0
            """);
        edge("38. a row of 60 is fifteen", LAW + "row(0, 0, 60) = 0\n" + everyFourth() + "sheets(0) = 15\nsheets(0) = 15\ncount(2) = 30\n29: 0 1 0 0 0 0\n");
    }

    private static String everyFourth() {
        StringBuilder lines = new StringBuilder();
        for (int i = 1; i < 60; i += 4) {
            lines.append("write(0, ").append(i).append(", 1) = 0\n");
        }
        return lines.toString();
    }

    private static void sheetsByWidth() {
        edge("38. of one byte each", LAW + row(0, 0, 0, 12, 127, 127) + "sheets(0) = 1\n0: 0 12 127 127 0 127\n");
        edge("38. of one byte each, 128 is below 0", LAW + row(0, 0, 0, 12, 128, 0) + "! sheets(0) = 0\n");
        edge("38. of eight bytes each", LAW + row(0, 3, 0, 12, 300, 9999) + "sheets(0) = 1\n0: 0 12 300 9999 0 300\n");
        for (int i = 0; i < 4; i++) {
            edge("38. of eight bytes each, not cut: " + i, LAW + row(0, 3, 0, 1, 5, 6) + "write(0, " + i + ", " + ((1L << 32) + 1) + ") = 0\n! sheets(0) = 0\n");
        }
    }

    // ---------------------------------------------------------------- promise 39

    private static void counts() {
        edge("39. NONE for others", """
            ! count(-1) = NONE
            ! count(8) = NONE
            ! count(MIN) = NONE
            ! count(MAX) = NONE
            """);
        edge("39. 0 laws, 1 sorts, 2 SHEETS, 3 LINES, 4 PARTS of the SUM, 5 noise, 6 bytes of the TAPE, 7 SLOTS that have a row", """
            "law enter 6 leave 15;law enter 6 leave 15;sort share 1 gift 2 wish 3;sort share 1 gift 2 wish 3;sort share 1 gift 2 wish 3;leak 1 by 1;"
            "wage 1 plus 2 times school over 4 minus old;noise 999;" = 8
            draw(1, 9) = 9
            "noise"
            row(0, 0, 0) = 0
            row(3, 3, 60) = 0
            ! count(0) = 2
            ! count(1) = 3
            ! count(2) = 9
            ! count(3) = 8
            ! count(4) = 5
            ! count(5) = 999
            ! count(6) = 5
            ! count(7) = 2
            ! count(8) = NONE
            row(1, 1, 1) = 0
            row(2, 2, 2) = 0
            count(7) = 4
            row(2, 2, 0) = 0
            count(7) = 4
            """);
    }

    // ---------------------------------------------------------------- promises 40 and 41

    private static void keepOfNone() {
        edge("40. -2: no such k", LAW + """
            sheet(0, 1, 5, 5) = 0
            ! keep(-1) = -2
            ! keep(3) = -2
            ! keep(MIN) = -2
            ! keep(MAX) = -2
            keep(0) = 0
            keep(2) = 0
            ! keep(3) = -2
            ! keep(0) = 0
            back(0) = 0
            back(2) = 0
            """);
    }

    private static void backOfNone() {
        edge("41. -2: no such k; -6: it has nothing", LAW + """
            sheet(0, 1, 5, 5) = 0
            ! back(-1) = -2
            ! back(3) = -2
            ! back(MIN) = -2
            ! back(MAX) = -2
            ! back(0) = -6
            ! back(1) = -6
            ! back(2) = -6
            keep(1) = 0
            ! back(0) = -6
            ! back(2) = -6
            ! back(1) = 0
            """);
        edge("41. an IMAGE of nothing is no nothing", """
            keep(0) = 0
            "law enter 6 leave 15;" = 1
            sheet(0, 1, 5, 5) = 0
            back(0) = 0
            count(0) = 0
            count(2) = 0
            """);
    }

    private static void imagesOfEachTheirOwn() {
        edge("41. These are as IMAGE k has them", """
            "law enter 4 leave 10;wage 1;noise 1;" = 3
            sheet(0, 1, 11, 21) = 0
            keep(0) = 0
            "law enter 5 leave 11;law enter 5 leave 12;wage 2 plus 2;noise 2;" = 4
            sheet(1, 2, 12, 22) = 1
            keep(1) = 0
            "law enter 6 leave 12;sort share 1 gift 1 wish 1;wage 3 plus 3 plus 3;" = 3
            only(0) = 1
            sheet(0, 3, 13, 23) = 1
            sheet(0, 3, 14, 24) = 2
            keep(2) = 0
            back(0) = 0
            count(0) = 1
            count(2) = 1
            count(3) = 3
            count(4) = 1
            count(5) = 1
            old(0, 9) = 48
            wage(0, 0, 1, 0) = 1
            0: 0 1 11 21 0 11
            back(2) = 0
            count(0) = 1
            count(1) = 1
            count(2) = 3
            count(5) = 0
            old(0, 9) = 72
            wage(0, 0, 1, 0) = 9
            2: 0 3 14 24 0 14
            back(1) = 0
            count(0) = 2
            count(1) = 0
            count(2) = 2
            count(4) = 2
            count(5) = 2
            1: 1 2 12 22 0 12
            """);
        edge("40. IMAGE k keeps LAND and SHEETS: what comes later is not in it", """
            "law enter 6 leave 15;law enter 6 leave 16;" = 2
            sheet(0, 1, 11, 21) = 0
            sheet(1, 2, 12, 22) = 1
            keep(0) = 0
            sheet(0, 3, 13, 23) = 2
            only(1) = 1
            back(0) = 0
            count(2) = 2
            only(0) = 1
            sheet(0, 9, 99, 99) = 1
            land() = 0
            back(0) = 0
            count(0) = 2
            0: 0 1 11 21 0 11
            1: 1 2 12 22 0 12
            sheet(0, 3, 13, 23) = 2
            keep(0) = 0
            only(1) = 1
            back(0) = 0
            count(2) = 3
            """);
        edge("41. all of the LAND is as it was", """
            "law enter 6 leave 15;law enter 7 leave 16;sort share 3 gift 5 wish 90 spread 9;sort share 4 gift 9 wish 140;"
            "leak 1 by 20;noise 50;wage school times 3 plus gift;" = 7
            keep(0) = 0
            "law enter 9 leave 20;law enter 9 leave 20;sort share 9 gift 1 wish 2 spread 3;sort share 8 gift 2 wish 3 spread 4;"
            "leak 1 by 1;leak 12 by 2;noise 3;wage 7 minus 5 minus 1;" = 8
            keep(1) = 0
            back(0) = 0
            count(3) = 7
            count(4) = 3
            count(5) = 50
            old(1, 9) = 84
            forced(0, 1) = 100
            forced(1, 12) = 111
            wage(10, 4, 1, 0) = 34
            draw(0, 2) = 2
            0: 0 1 140 463 29 140
            1: 1 2 101 285 5 92
            # of MONTH 12 there is no leak
            draw(15, 1) = 1
            0: 0 12 111 336 5 90
            keep(2) = 0
            back(1) = 0
            count(3) = 8
            wage(10, 4, 1, 0) = 1
            count(2) = 0
            back(2) = 0
            0: 0 12 111 336 5 90
            draw(0, 1) = 1
            0: 0 1 140 463 29 140
            back(2) = 0
            0: 0 12 111 336 5 90
            """);
        edge("40. of as many as there may be", """
            "law enter 6 leave 15;sort share 1 gift 1 wish 1;" = 2
            draw(1, 200) = 200
            keep(2) = 0
            draw(2, 1) = 1
            back(2) = 0
            count(2) = 200
            told(199, 2) = 107
            sheet(0, 1, 1, 1) = -3
            """.replace("107", "" + (99 + monthOf(1, 199))));
    }

    private static long monthOf(long seed, int i) {
        long x = seed;
        for (int draw = 0; draw < 5 * i + 2; draw++) {
            x = (1103515245L * x + 12345L) % 2147483648L;
        }
        return x / 65536 % 12 + 1;
    }

    private static void imagesKeepNothingElse() {
        edge("40. LAND and SHEETS: the TAPE, the FAULT, SLOTS and other IMAGES stay", """
            "law enter 6 leave 15;" = 1
            keep(0) = 0
            "law x" = -4
            end(0) = 0
            "noise"
            row(0, 1, 3) = 0
            write(0, 1, 7) = 0
            keep(1) = 0
            ! back(0) = 0
            count(6) = 5
            count(7) = 1
            fault(0) = 1
            fault(1) = 4
            """);
    }

    // ---------------------------------------------------------------- promises 42 and 43

    private static void rowOfNone() {
        edge("42. -2: there is no such SLOT or WIDTH (0 .. 3), or n is above 60", row(0, 1, 0, 1, 5, 6) + """
            ! row(-1, 0, 1) = -2
            ! row(4, 0, 1) = -2
            ! row(MIN, 0, 1) = -2
            ! row(MAX, 0, 1) = -2
            ! row(0, -1, 1) = -2
            ! row(0, 4, 1) = -2
            ! row(0, MIN, 1) = -2
            ! row(0, MAX, 1) = -2
            ! row(0, 1, 61) = -2
            ! row(0, 1, MAX) = -2
            ! row(1, 1, 61) = -2
            ! row(4, 0, -1) = -2
            ! row(-1, 0, -1) = -2
            ! row(0, 4, -1) = -2
            ! row(0, -1, -1) = -2
            """);
        edge("42. -3, and the SLOT stays: n is below 0", row(0, 1, 0, 1, 5, 6) + """
            ! row(0, 1, -1) = -3
            ! row(0, 3, -1) = -3
            ! row(0, 1, MIN) = -3
            ! row(1, 1, -1) = -3
            count(7) = 1
            """ + LAW + "sheets(0) = 1\n0: 0 1 5 6 0 5\n");
    }

    private static void rowsOfAllLengths() {
        edge("42. A SLOT (0 .. 3) has a row of n numbers of a WIDTH (0 .. 3), at most 60", """
            row(0, 0, 0) = 0
            ! write(0, 0, 1) = -7
            row(1, 1, 1) = 0
            write(1, 0, 1) = 0
            ! write(1, 1, 1) = -7
            row(2, 2, 59) = 0
            write(2, 58, 1) = 0
            ! write(2, 59, 1) = -7
            row(3, 3, 60) = 0
            write(3, 59, 1) = 0
            ! write(3, 60, 1) = -7
            count(7) = 4
            """);
        edge("42. all 0 (in place of another one)", row(0, 1, 5, 6, 7) + "row(0, 1, 3) = 0\n" + rowIs(0, 0, 0, 0));
        edge("42. all 0, those that were beyond a shorter row too", row(0, 1, 5, 6, 7) + "row(0, 1, 1) = 0\nrow(0, 1, 3) = 0\n" + rowIs(0, 0, 0, 0));
        edge("42. of another WIDTH", row(0, 3, 300, 0, 0) + "row(0, 0, 2) = 0\nwrite(0, 0, 300) = 0\n" + rowIs(0, 44, 0));
    }

    private static void writeOfNone() {
        edge("43. -2: there is no such SLOT; -6: it has nothing; -7: there is no such number", row(0, 1, 0, 1, 5, 6) + """
            ! write(-1, 0, 1) = -2
            ! write(4, 0, 1) = -2
            ! write(MIN, 0, 1) = -2
            ! write(MAX, 0, 1) = -2
            ! write(4, -1, 1) = -2
            ! write(1, 0, 1) = -6
            ! write(3, 0, 1) = -6
            ! write(1, -1, 1) = -6
            ! write(0, -1, 1) = -7
            ! write(0, 4, 1) = -7
            ! write(0, MIN, 1) = -7
            ! write(0, MAX, 1) = -7
            write(0, 0, 1) = 0
            write(0, 3, 1) = 0
            """ + rowIs(0, 1, 1, 5, 1));
    }

    private static void writesAreCut() {
        for (int width = 0; width < 3; width++) {
            long round = 1L << (8 << width);
            edge("43. v, cut to its WIDTH " + width, row(0, width, 100 + round, 101 - round, 102 + 5 * round, 103 + (1L << 40), 7) + rowIs(0, 100, 101, 102, 103, 7));
        }
        edge("43. v, of eight bytes is not cut", row(0, 3, 7, Long.MAX_VALUE, 9) + schools(7, 255, 9) + "judge(0) = 1\n");
        edge("43. v, of one byte: the greatest and the least", row(0, 0, 127, 256, -256, 383, Long.MIN_VALUE) + rowIs(0, 127, 0, 0, 127, 0));
        edge("43. v, of one byte: 128 is -128", row(0, 0, 128) + schools(128) + "judge(0) = 0\n");
        edge("43. v, of two bytes", row(0, 1, 65536 + 300, 32767, 300) + schools(300, 300) + "judge(0) = 1\n");
        edge("43. v, of four bytes", row(0, 2, (1L << 32) + 300, (1L << 31), 300) + schools(300, 300) + "judge(0) = 1\n");
        edge("43. Number i alone", row(0, 1, 5, 6, 7) + "write(0, 1, 9) = 0\n" + rowIs(0, 5, 9, 7));
    }

    // ---------------------------------------------------------------- promise 44

    private static final String ROWS = row(0, 1, 0, 1, 5, 6, 0) + row(1, 1, 0, 2, 7, 8) + row(2, 2, 0, 3, 9, 10);

    private static void pasteOfNone() {
        edge("44. -2: there is no such SLOT; -6: one has nothing; -8: they are not of one WIDTH", ROWS + """
            ! paste(-1, 0, 0, 0, 1) = -2
            ! paste(4, 0, 0, 0, 1) = -2
            ! paste(0, 0, -1, 0, 1) = -2
            ! paste(0, 0, 4, 0, 1) = -2
            ! paste(MIN, 0, MAX, 0, 1) = -2
            ! paste(4, 0, 3, 0, 1) = -2
            ! paste(3, 0, 4, 0, 1) = -2
            ! paste(0, 0, 3, 0, 1) = -6
            ! paste(3, 0, 0, 0, 1) = -6
            ! paste(3, 0, 3, 0, 1) = -6
            ! paste(3, -1, 0, -1, -1) = -6
            ! paste(0, 0, 2, 0, 1) = -8
            ! paste(2, 0, 0, 0, 1) = -8
            ! paste(2, 0, 0, 0, 0) = -8
            ! paste(0, -1, 2, 0, 1) = -8
            ! paste(0, 0, 2, 0, 99) = -8
            """);
    }

    private static void pasteBeyond() {
        edge("44. -7, and nothing happens: some are beyond their rows", ROWS + """
            ! paste(0, 0, 1, 0, 5) = -7
            ! paste(0, 2, 1, 0, 4) = -7
            ! paste(0, 5, 1, 0, 1) = -7
            ! paste(0, 6, 1, 0, 0) = -7
            ! paste(0, 0, 1, 1, 4) = -7
            ! paste(0, 0, 1, 4, 1) = -7
            ! paste(0, 0, 1, 5, 0) = -7
            ! paste(0, 1, 0, 0, 5) = -7
            ! paste(0, 0, 0, 1, 5) = -7
            ! paste(0, 1, 1, 0, MAX) = -7
            ! paste(0, MAX, 1, 0, 1) = -7
            ! paste(0, 0, 1, MAX, 1) = -7
            ! paste(0, MAX, 1, MAX, MAX) = -7
            """);
        edge("44. -7, and nothing happens: or a place or n is below 0", ROWS + """
            ! paste(0, -1, 1, 0, 1) = -7
            ! paste(0, 0, 1, -1, 1) = -7
            ! paste(0, 0, 1, 0, -1) = -7
            ! paste(0, MIN, 1, 0, 1) = -7
            ! paste(0, 0, 1, MIN, 1) = -7
            ! paste(0, 0, 1, 0, MIN) = -7
            ! paste(0, 3, 1, 3, -1) = -7
            ! paste(0, -1, 1, -1, 0) = -7
            """);
    }

    private static void pastesAsTheyWere() {
        edge("44. to another one's, from one on", ROWS + "paste(0, 1, 1, 2, 2) = 0\n" + rowIs(1, 0, 2, 1, 5) + rowIs(0, 0, 1, 5, 6, 0));
        edge("44. up to the last of both", ROWS + "paste(0, 1, 1, 0, 4) = 0\n" + rowIs(1, 1, 5, 6, 0) + rowIs(0, 0, 1, 5, 6, 0));
        edge("44. the last alone", ROWS + "paste(1, 3, 0, 4, 1) = 0\n" + rowIs(0, 0, 1, 5, 6, 8) + rowIs(1, 0, 2, 7, 8));
        edge("44. (or its own), as they were: upwards", row(0, 1, 1, 2, 3, 4, 5) + "paste(0, 0, 0, 1, 4) = 0\n" + rowIs(0, 1, 1, 2, 3, 4));
        edge("44. (or its own), as they were: downwards", row(0, 1, 1, 2, 3, 4, 5) + "paste(0, 1, 0, 0, 4) = 0\n" + rowIs(0, 2, 3, 4, 5, 5));
        edge("44. (or its own), as they were: by two", row(0, 1, 1, 2, 3, 4, 5) + "paste(0, 0, 0, 2, 3) = 0\n" + rowIs(0, 1, 2, 1, 2, 3));
        edge("44. (or its own), where they are", row(0, 1, 1, 2, 3) + "! paste(0, 0, 0, 0, 3) = 0\n");
        for (int width = 0; width < 4; width++) {
            edge("44. of WIDTH " + width, row(0, width, 100, 101) + row(3, width, 0, 0) + "paste(0, 0, 3, 0, 2) = 0\n" + rowIs(3, 100, 101));
        }
        edge("44. sixty", LAW + "row(0, 3, 60) = 0\nrow(1, 3, 60) = 0\n" + everyFourth() + "paste(0, 0, 1, 0, 60) = 0\nsheets(1) = 15\n14: 0 1 0 0 0 0\n");
    }

    private static void pastesOfNothing() {
        edge("44. no numbers at all", ROWS + """
            ! paste(0, 0, 1, 0, 0) = 0
            ! paste(0, 5, 1, 4, 0) = 0
            row(3, 1, 0) = 0
            ! paste(3, 0, 0, 0, 0) = 0
            ! paste(3, 0, 3, 0, 0) = 0
            ! paste(3, 0, 0, 0, 1) = -7
            ! paste(0, 0, 3, 0, 1) = -7
            """);
    }
}
