/** Promises 9 to 14, 36 to 39: draw, sheet, told, would, worth, month, only, judge, sheets, count. */
public final class SheetsTest {
    private static final Check C = new Check("SheetsTest");

    public static void main(String[] args) {
        drawn();
        drawnOfManySorts();
        drawsOfNone();
        toldOnes();
        wouldBe();
        worths();
        monthsTogether();
        onlyOnes();
        judged();
        outOfASlot();
        C.close();
    }

    private static void sheetIs(MonthPush x, int i, int... due) {
        for (int what = 0; what < 6; what++) {
            C.due("told(" + i + ", " + what + ")", x.told(i, what), due[what]);
        }
    }

    private static void drawn() {
        // from the seed 0 the first draws are 0, 21468, 9988, 22117, 3498, 16927, 16045, 19741, 12122, 8410
        MonthPush x = Check.with("law enter 6 leave 15;law enter 7 leave 16;sort share 3 gift 5 wish 90 spread 9;sort share 4 gift 9 wish 140;leak 1 by 20;noise 50;wage school times 3 plus gift;");
        C.due("draw", x.draw(0, 2), 2);
        // STATE 0 of 2; 21468 % 12 + 1 = 1; 9988 % 7 = 6: SORT 1; 22117 % 1 = 0; 3498 % 101 = 64
        sheetIs(x, 0, 0, 1, 140, 140 * 3 + 29 + 14, 29, 140);
        // 16927 % 2 = 1; 16045 % 12 + 1 = 2; 19741 % 7 = 1: SORT 0; 12122 % 10 = 2; 8410 % 101 = 27
        sheetIs(x, 1, 1, 2, 101, 303 + 5 - 23, 5, 92);
        C.due("none behind", x.told(2, 0), -1);
        C.due("draw in place of all", x.draw(0, 1), 1);
        C.due("count(2)", x.count(2), 1);
        sheetIs(x, 0, 0, 1, 140, 140 * 3 + 29 + 14, 29, 140);
        C.due("the greatest numbers", x.draw(2000000000, 200), 200);
        C.due("count(2)", x.count(2), 200);
        for (int i = 0; i < 200; i++) {
            C.holds("WAGE within bounds", x.told(i, 3) >= 0 && x.told(i, 3) <= 9999);
        }
    }

    private static void drawnOfManySorts() {
        MonthPush x = Check.with("law enter 4 leave 10;sort share 1 gift 1 wish 240 spread 60;noise 999;");
        x.draw(7, 200);
        boolean low = false;
        boolean high = false;
        for (int i = 0; i < 200; i++) {
            int wish = x.told(i, 5);
            C.holds("WISH of a spread", wish >= 240 && wish <= 300);
            C.due("SCHOOL is WISH", x.told(i, 2), wish);
            low |= x.told(i, 3) == 0;
            high |= x.told(i, 3) > 900;
        }
        C.holds("WAGE is cut at 0", low);
        C.holds("WAGE by noise alone", high);
        MonthPush y = Check.with("law enter 4 leave 10;sort share 1 gift 1 wish 1;wage 999 times 999;noise 999;");
        y.draw(7, 200);
        boolean top = false;
        for (int i = 0; i < 200; i++) {
            C.holds("WAGE is cut at 9999", y.told(i, 3) <= 9999 && y.told(i, 3) >= 9000);
            top |= y.told(i, 3) == 9999;
        }
        C.holds("some at the top", top);
    }

    private static void drawsOfNone() {
        MonthPush x = Check.with("law enter 6 leave 15;sort share 3 gift 5 wish 90;");
        x.draw(1, 3);
        int[][] none = {{-1, 1}, {2000000001, 1}, {0, 0}, {0, 201}, {0, -1}, {Integer.MIN_VALUE, Integer.MAX_VALUE}};
        for (int[] a : none) {
            C.due("draw of none", x.draw(a[0], a[1]), -2);
        }
        Check.tell(x, "law enter 6 leave 15;");
        C.due("no sort", x.draw(0, 1), -6);
        C.due("no sort, no such n", x.draw(0, 0), -2);
        Check.tell(x, "sort share 3 gift 5 wish 90;");
        C.due("no law", x.draw(0, 1), -6);
        C.due("SHEETS stay", x.count(2), 3);
    }

    private static void toldOnes() {
        MonthPush x = Check.with("law enter 6 leave 15;leak 12 by 9;");
        C.due("sheet", x.sheet(0, 12, 50, 400), 0);
        sheetIs(x, 0, 0, 12, 50, 400, 0, 50);
        C.due("least", x.sheet(0, 1, 0, 0), 1);
        C.due("greatest", x.sheet(0, 12, 300, 9999), 2);
        int[][] none = {{1, 1, 1, 1}, {-1, 1, 1, 1}, {0, 0, 1, 1}, {0, 13, 1, 1}, {0, 1, -1, 1}, {0, 1, 301, 1}, {0, 1, 1, -1}, {0, 1, 1, 10000}};
        for (int[] a : none) {
            C.due("sheet of none", x.sheet(a[0], a[1], a[2], a[3]), -2);
        }
        C.due("count(2)", x.count(2), 3);
        for (int i = 3; i < 200; i++) {
            C.due("sheet", x.sheet(0, 5, i, i), i);
        }
        C.due("sheet 201", x.sheet(0, 5, 1, 1), -3);
        C.due("sheet 201 of none", x.sheet(0, 0, 1, 1), -2);
        C.due("told what -1", x.told(0, -1), -1);
        C.due("told what 6", x.told(0, 6), -1);
        C.due("told -1", x.told(-1, 0), -1);
        C.due("told 199", x.told(199, 2), 199);
        C.due("told 200", x.told(200, 2), -1);
    }

    private static void wouldBe() {
        MonthPush x = Check.with("law enter 6 leave 15;law enter 6 leave 16;");
        x.sheet(1, 1, 115, 1);
        x.sheet(0, 1, 50, 1);
        C.due("WISH below FORCED", x.would(0, 12), 123);
        C.due("WISH above FORCED", x.would(0, 2), 115);
        C.due("would(1, 1)", x.would(1, 1), 100);
        C.due("month 0", x.would(0, 0), -2);
        C.due("month 13", x.would(0, 13), -2);
        C.due("SHEET -1", x.would(-1, 1), -2);
        C.due("SHEET 2", x.would(2, 1), -2);
        Check.tell(x, "law enter 6 leave 15;");
        C.due("its STATE is none now", x.would(0, 1), -2);
        C.due("another's stands", x.would(1, 12), 111);
    }

    private static void worths() {
        MonthPush x = Check.with("law enter 6 leave 15;law enter 6 leave 16;wage school times school over 100 plus month;sort share 1 gift 4 wish 99;");
        x.sheet(1, 1, 100, 1);
        x.sheet(0, 1, 300, 1);
        x.sheet(0, 1, 299, 1);
        x.sheet(0, 1, 48, 1);
        C.due("worth(0)", x.worth(0), 2);
        C.due("300 at most", x.worth(1), 0);
        C.due("worth(2)", x.worth(2), 900 - 894);
        C.due("worth(3)", x.worth(3), 24 - 23);
        C.due("worth(-1)", x.worth(-1), Check.NOTHING);
        C.due("worth(4)", x.worth(4), Check.NOTHING);
        Check.tell(x, "law enter 6 leave 15;wage 999 minus school;");
        C.due("its STATE is none now", x.worth(0), Check.NOTHING);
        C.due("below 0", x.worth(2), -1);
        Check.tell(x, "law enter 6 leave 15;");
        C.due("without a SUM", x.worth(2), 0);
        MonthPush y = Check.with("law enter 6 leave 15;sort share 1 gift 7 wish 120;wage school times gift;leak 1 by 1;noise 500;");
        y.draw(3, 5);
        for (int i = 0; i < 5; i++) {
            C.due("worth by GIFT", y.worth(i), y.told(i, 4));
            C.due("GIFT by leak", y.told(i, 4), y.told(i, 1) == 1 ? 8 : 7);
        }
    }

    private static void monthsTogether() {
        MonthPush x = Check.with("law enter 6 leave 15;law enter 6 leave 20;");
        x.sheet(0, 1, 99, 7);
        x.sheet(0, 1, 100, 8);
        x.sheet(0, 12, 110, 9);
        x.sheet(1, 12, 120, 10);
        int[][] due = {{4, 429, 34, 3}, {2, 199, 15, 1}, {2, 230, 19, 2}, {0, 0, 0, 0}};
        int[] months = {0, 1, 12, 2};
        for (int m = 0; m < 4; m++) {
            for (int what = 0; what < 4; what++) {
                C.due("month(" + months[m] + ", " + what + ")", x.month(months[m], what), due[m][what]);
            }
        }
        C.due("month 13", x.month(13, 0), -1);
        C.due("month -1", x.month(-1, 0), -1);
        C.due("what 4", x.month(1, 4), -1);
        C.due("what -1", x.month(1, -1), -1);
        Check.tell(x, "law enter 6 leave 15;");
        C.due("HELD only in a STATE there now", x.month(12, 3), 1);
        C.due("all the same", x.month(12, 1), 230);
    }

    private static void onlyOnes() {
        MonthPush x = Check.with("law enter 6 leave 15;law enter 6 leave 20;law enter 5 leave 11;");
        x.sheet(0, 1, 99, 7);
        x.sheet(1, 2, 100, 8);
        x.sheet(0, 3, 110, 9);
        x.sheet(1, 4, 120, 10);
        C.due("only(3)", x.only(3), -2);
        C.due("only(-1)", x.only(-1), -2);
        C.due("all stay", x.count(2), 4);
        C.due("only(1)", x.only(1), 2);
        sheetIs(x, 0, 1, 2, 100, 8, 0, 100);
        sheetIs(x, 1, 1, 4, 120, 10, 0, 120);
        C.due("told(2)", x.told(2, 0), -1);
        C.due("only(2)", x.only(2), 0);
        C.due("count(2)", x.count(2), 0);
    }

    private static void judged() {
        MonthPush x = Check.with("law enter 6 leave 15;");
        x.sheet(0, 1, 100, 1);
        x.sheet(0, 1, 200, 1);
        x.sheet(0, 1, 0, 1);
        C.due("SLOT 4", x.judge(4), -2);
        C.due("SLOT -1", x.judge(-1), -2);
        C.due("nothing", x.judge(0), -6);
        x.row(0, 1, 0);
        C.due("an empty row", x.judge(0), 0);
        x.row(0, 1, 5);
        C.due("none", x.judge(0), 0);
        x.write(0, 0, 100);
        C.due("one", x.judge(0), 1);
        x.write(0, 1, 200);
        C.due("beyond the SHEETS", x.judge(0), 3);
        x.row(1, 1, 2);
        x.write(1, 0, 100);
        x.write(1, 1, 200);
        C.due("beyond the row", x.judge(1), 2);
        x.row(1, 0, 2);
        x.write(1, 0, 100);
        x.write(1, 1, 200);
        C.due("200 is cut to one byte", x.judge(1), 1);
        x.row(2, 3, 2);
        x.write(2, 0, 100 + (1L << 32));
        C.due("eight bytes are not cut", x.judge(2), 0);
        x.row(3, 2, 2);
        x.write(3, 0, 100 + (1L << 32));
        C.due("four bytes are", x.judge(3), 1);
    }

    private static void outOfASlot() {
        MonthPush first = Check.with("law enter 6 leave 15;");
        first.row(0, 0, 8);
        first.write(0, 1, 5);
        C.due("the very first, and then none", first.sheets(0), 1);
        MonthPush x = Check.with("law enter 6 leave 15;law enter 6 leave 15;");
        x.sheet(0, 2, 9, 9);
        C.due("SLOT 4", x.sheets(4), -2);
        C.due("SLOT -1", x.sheets(-1), -2);
        C.due("nothing", x.sheets(0), -6);
        x.row(0, 1, 11);
        int[] row = {0, 1, 5, 50, 1, 12, 300, 9999, 0, 1, 1};
        for (int i = 0; i < row.length; i++) {
            x.write(0, i, row[i]);
        }
        C.due("two, and three left over", x.sheets(0), 2);
        C.due("count(2)", x.count(2), 3);
        sheetIs(x, 1, 0, 1, 5, 50, 0, 5);
        sheetIs(x, 2, 1, 12, 300, 9999, 0, 300);
        x.write(0, 5, 13);
        C.due("till one is refused", x.sheets(0), 1);
        x.write(0, 1, 0);
        C.due("the first is refused", x.sheets(0), 0);
        x.row(1, 3, 4);
        x.write(1, 0, 1L << 32);
        x.write(1, 1, 1);
        C.due("a STATE beyond an int", x.sheets(1), 0);
        x.write(1, 0, 0);
        C.due("a SHEET out of 8 bytes", x.sheets(1), 1);
        x.row(2, 0, 60);
        for (int i = 0; i < 15; i++) {
            x.write(2, 4 * i + 1, 3);
        }
        for (int i = 0; i < 13; i++) {
            C.due("fifteen", x.sheets(2), 15);
        }
        C.due("up to 200", x.sheets(2), 0);
        C.due("count(2)", x.count(2), 200);
        x.only(1);
        x.row(3, 0, 3);
        C.due("three numbers are none", x.sheets(3), 0);
    }
}
