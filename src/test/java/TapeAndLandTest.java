/** Promises 1 to 8: a new object, feed, end, land, fault, forced, old, wage. */
public final class TapeAndLandTest {
    private static final Check C = new Check("TapeAndLandTest");
    private static final String LAW = "law enter 6 leave 15;";
    private static final String SORT = "sort share 1 gift 2 wish 3;";

    public static void main(String[] args) {
        aNewObject();
        feedAndEnd();
        lands();
        faultsAtTokens();
        faultsAtBounds();
        faultsAtTheEnd();
        landsThatStay();
        months();
        wages();
        wagesThatComeToNothing();
        C.close();
    }

    private static void aNewObject() {
        MonthPush x = new MonthPush();
        for (int what = 0; what <= 7; what++) {
            C.due("new count(" + what + ")", x.count(what), 0);
        }
        C.due("new fault(0)", x.fault(0), 0);
        C.due("new fault(1)", x.fault(1), -1);
        C.due("new fault(2)", x.fault(2), -1);
        C.due("new fault(-1)", x.fault(-1), -1);
        C.due("new draw", x.draw(1, 1), -6);
        C.due("NONE", MonthPush.NONE, -1);
    }

    private static void feedAndEnd() {
        MonthPush x = new MonthPush();
        for (int i = 1; i <= 30; i++) {
            C.due("feed", x.feed(0, 0, 0, 0, 0), 20 * i);
        }
        C.due("feed beyond 600", x.feed(0, 0, 0, 0, 0), -1);
        C.due("count(6)", x.count(6), 600);
        C.due("end(601)", x.end(601), -1);
        C.due("end(-1)", x.end(-1), -1);
        C.due("end(MIN)", x.end(Integer.MIN_VALUE), -1);
        C.due("count(6)", x.count(6), 600);
        C.due("end(581)", x.end(581), 581);
        C.due("feed to 601", x.feed(0, 0, 0, 0, 0), -1);
        C.due("count(6)", x.count(6), 581);
        C.due("end(580)", x.end(580), 580);
        C.due("feed to 600", x.feed(0, 0, 0, 0, 0), 600);
        C.due("end(600)", x.end(600), 600);
        C.due("end(0)", x.end(0), 0);
        C.due("end(1)", x.end(1), -1);
        // "noise 77;" and eleven blanks: the highest byte of each number comes first
        x.feed(0x6e6f6973, 0x65203737, 0x3b202020, 0x20202020, 0x0a0a0a0a);
        C.due("land of bytes", x.land(), 1);
        C.due("noise", x.count(5), 77);
        C.due("the TAPE is empty then", x.count(6), 0);
    }

    private static void lands() {
        MonthPush x = new MonthPush();
        C.due("an empty text", x.land(), 0);
        C.due("blanks alone", Check.tell(x, " \n \n"), 0);
        C.due("tokens without blanks", Check.tell(x, "law enter6leave15;sort share1gift2wish3spread4;wage1plus2;"), 3);
        C.due("laws", x.count(0), 1);
        C.due("sorts", x.count(1), 1);
        C.due("lines", x.count(3), 3);
        C.due("parts", x.count(4), 2);
        C.due("noise", x.count(5), 0);
        C.due("every line", Check.tell(x, "\nnoise 999;leak 12 by 99;leak 1 by 0 ; wage school times gift over month minus old plus forced\n;"
            + LAW + LAW + SORT + SORT + SORT), 9);
        C.due("laws", x.count(0), 2);
        C.due("sorts", x.count(1), 3);
        C.due("lines", x.count(3), 9);
        C.due("parts", x.count(4), 5);
        C.due("noise", x.count(5), 999);
        C.due("fault(0)", x.fault(0), 0);
        C.due("fault(1)", x.fault(1), -1);
        C.due("count(8)", x.count(8), -1);
        C.due("count(-1)", x.count(-1), -1);
        C.due("numbers with zeros ahead", Check.tell(x, "noise 000000000000000000000005;"), 1);
        C.due("noise", x.count(5), 5);
        C.due("in place of another", x.count(0), 0);
        C.due("the least numbers", Check.tell(x, "law enter 4 leave 10;sort share 1 gift 0 wish 0 spread 0;leak 1 by 0;wage 0;noise 0;"), 5);
        C.due("the greatest numbers", Check.tell(x, "law enter 9 leave 20;sort share 99 gift 99 wish 240 spread 60;leak 12 by 99;wage 999;noise 999;"), 5);
        C.due("six laws, eight sorts", Check.tell(x, LAW.repeat(6) + SORT.repeat(8)), 14);
        StringBuilder sum = new StringBuilder("wage1");
        for (int i = 1; i < 119; i++) {
            sum.append("plus1");
        }
        C.due("the longest SUM", Check.tell(x, sum + ";" + " ".repeat(4)), 1);
        C.due("its PARTS", x.count(4), 119);
        C.due("one law more", Check.tell(x, LAW + sum.substring(0, 20) + ";"), 2);
        C.due("its wage", x.wage(0, 0, 1, 0), 4);
    }

    private static void faulty(String text, int kind, int place) {
        MonthPush x = new MonthPush();
        C.due(text + " land", Check.tell(x, text), -4);
        C.due(text + " fault", x.fault(0), kind);
        C.due(text + " place", x.fault(1), place);
        C.due(text + " fault(2)", x.fault(2), -1);
    }

    private static void faultsAtTokens() {
        faulty("lawenter 6 leave 15;", 1, 0);
        faulty("Law enter 6 leave 15;", 1, 0);
        faulty("laws enter 6 leave 15;", 1, 0);
        faulty("la enter 6 leave 15;", 1, 0);
        faulty("paw enter 6 leave 15;", 1, 0);
        faulty("lawz enter 6 leave 15;", 1, 0);
        faulty(";", 1, 0);
        faulty("7", 1, 0);
        faulty("law 6;", 1, 4);
        faulty("law enter ;", 1, 10);
        faulty("law enter 6 15;", 1, 12);
        faulty("law enter 6 leave x;", 1, 18);
        faulty("law enter 6 leave 15 ,", 1, 21);
        faulty(LAW + LAW + "\t", 1, 42);
        faulty("law\tenter 6 leave 15;", 1, 3);
        faulty("law enter -6 leave 15;", 1, 10);
        faulty("noise 1" + (char) 0 + ";", 1, 7);
        faulty("noise 1" + (char) 187 + ";", 1, 7);
        faulty("noise noise 1;", 1, 6);
        faulty("noise 1;;", 1, 8);
        faulty("noise 1 2;", 1, 8);
        faulty("sort gift 1 share 1 wish 1;", 1, 5);
        faulty("sort share 1 gift 1 wish 1 2;", 1, 27);
        faulty("sort share 1 gift 1 wish 1 spread;", 1, 33);
        faulty("leak one by 1;", 1, 5);
        faulty("leak 1 1;", 1, 7);
        faulty("leak 1 by ;", 1, 10);
        faulty("wage;", 1, 4);
        faulty("wage plus 1;", 1, 5);
        faulty("wage school plus;", 1, 16);
        faulty("wage 1 plus plus 1;", 1, 12);
        faulty("wage 1 2;", 1, 7);
        faulty("wage 1 school;", 1, 7);
        faulty("wage wish;", 1, 5);
        faulty("wage schools;", 1, 5);
        faulty("wage 1 over;", 1, 11);
        faulty("wage 1 time 2;", 1, 7);
    }

    private static void faultsAtBounds() {
        faulty("law enter 3 leave 16;", 2, 10);
        faulty("law enter 10 leave 16;", 2, 10);
        faulty("law enter 4 leave 9;", 2, 18);
        faulty("law enter 9 leave 21;", 2, 18);
        faulty("sort share 0 gift 1 wish 1;", 2, 11);
        faulty("sort share 100 gift 1 wish 1;", 2, 11);
        faulty("sort share 1 gift 100 wish 1;", 2, 18);
        faulty("sort share 1 gift 1 wish 241;", 2, 25);
        faulty("sort share 1 gift 1 wish 1 spread 61;", 2, 34);
        faulty("leak 0 by 1;", 2, 5);
        faulty("leak 13 by 1;", 2, 5);
        faulty("leak 1 by 100;", 2, 10);
        faulty("leak 1 by 1;leak 1 by 2;", 2, 17);
        faulty("leak 1 by 0;leak 1 by 0;", 2, 17);
        faulty("leak 1 by 1;leak 2 by 2;leak 2 x", 2, 29);
        faulty("noise 1000;", 2, 6);
        faulty("noise 99999999999999999999;", 2, 6);
        faulty("noise 4294967296;", 2, 6);
        faulty("wage 1000;", 2, 5);
        faulty("wage school times 1000;", 2, 18);
        faulty("wage 1;wage 2;", 2, 7);
        faulty("wage 1;wage;", 2, 7);
        faulty("noise 0;noise 0;", 2, 8);
        faulty("noise 1;noise x", 2, 8);
        faulty(LAW.repeat(6) + "law", 3, 126);
        faulty(LAW.repeat(6) + "\n law x", 3, 128);
        faulty("sort share1gift1wish1;".repeat(8) + "sort", 3, 176);
        faulty("noise 1000;law x", 2, 6);
        faulty("law x;noise 1000;", 1, 4);
    }

    private static void faultsAtTheEnd() {
        faulty("law", 1, 3);
        faulty("law  \n", 1, 6);
        faulty("law enter 6 leave 15", 1, 20);
        faulty("sort share 1 gift 1 wish 1 ", 1, 27);
        faulty("wage 1", 1, 6);
        faulty("wage ", 1, 5);
        faulty("wage 1 plus", 1, 11);
        faulty("leak 1", 1, 6);
        faulty("noise", 1, 5);
        faulty(LAW + "l", 1, 21);
    }

    private static void landsThatStay() {
        MonthPush x = Check.with(LAW + SORT);
        x.draw(5, 9);
        C.due("a fault", Check.tell(x, "law enter 7 leave 16; law enter 8 leave 17; noise 5; wage 7; x"), -4);
        C.due("laws stay", x.count(0), 1);
        C.due("noise stays", x.count(5), 0);
        C.due("SHEETS stay", x.count(2), 9);
        C.due("forced stays", x.forced(0, 1), 100);
        C.due("fault(0)", x.fault(0), 1);
        C.due("fault(1)", x.fault(1), 61);
        C.due("the TAPE stays", x.count(6), 62);
        C.due("the same fault again", x.land(), -4);
        C.due("fault(1)", x.fault(1), 61);
        C.due("cut ahead of the fault", x.end(21), 21);
        C.due("a text that was faulty further on", x.land(), 1);
        C.due("fault(0)", x.fault(0), 0);
        C.due("fault(1)", x.fault(1), -1);
        C.due("forced is new", x.forced(0, 1), 12 * 16 - 84 - 8);
        C.due("SHEETS stay still", x.count(2), 9);
        C.due("sorts are gone", x.count(1), 0);
        C.due("draw without sorts", x.draw(1, 1), -6);
    }

    private static void months() {
        MonthPush x = Check.with("law enter 6 leave 15;law enter 9 leave 10;law enter 4 leave 20;");
        C.due("old(0, 1)", x.old(0, 1), 80);
        C.due("old(0, 9)", x.old(0, 9), 72);
        C.due("old(0, 12)", x.old(0, 12), 69);
        C.due("old(1, 1)", x.old(1, 1), 116);
        C.due("old(2, 12)", x.old(2, 12), 45);
        C.due("forced(0, 1)", x.forced(0, 1), 100);
        C.due("forced(0, 12)", x.forced(0, 12), 111);
        C.due("forced(1, 1)", x.forced(1, 1), 4);
        C.due("forced(2, 12)", x.forced(2, 12), 195);
        int[][] none = {{3, 1}, {-1, 1}, {0, 0}, {0, 13}, {Integer.MAX_VALUE, 1}, {0, Integer.MIN_VALUE}};
        for (int[] a : none) {
            C.due("forced of none", x.forced(a[0], a[1]), -2);
            C.due("old of none", x.old(a[0], a[1]), -2);
        }
    }

    private static void wage(String sum, int school, int gift, int month, int due) {
        MonthPush x = Check.with(LAW + "law enter 7 leave 16;wage " + sum + ";");
        C.due(sum, x.wage(school, gift, month, 0), due);
    }

    private static void wages() {
        wage("school", 117, 0, 1, 117);
        wage("gift", 0, 999, 1, 999);
        wage("month", 0, 0, 12, 12);
        wage("old", 0, 0, 1, 80);
        wage("forced", 0, 0, 1, 100);
        wage("school times 2 plus gift", 100, 7, 1, 207);
        wage("gift plus school times 2", 100, 7, 1, 207);
        wage("10 minus 3 minus 2", 0, 0, 1, 5);
        wage("10 minus 3 plus 2", 0, 0, 1, 9);
        wage("3 minus 10", 0, 0, 1, 0);
        wage("3 minus 10 plus 20", 0, 0, 1, 13);
        wage("100 minus 3 times 4 over 5", 0, 0, 1, 98);
        wage("7 over 2 times 2", 0, 0, 1, 6);
        wage("7 times 2 over 2", 0, 0, 1, 7);
        wage("100 over 7 over 3", 0, 0, 1, 4);
        wage("999 times 999", 0, 0, 1, 9999);
        wage("999 times 10 plus 9", 0, 0, 1, 9999);
        wage("999 times 10 plus 8", 0, 0, 1, 9998);
        MonthPush x = Check.with(LAW + "law enter 7 leave 16;wage old times 10 plus forced;noise 9;");
        C.due("in STATE 1", x.wage(0, 0, 2, 1), (84 + 7) * 10 + 192 - 91);
        C.due("bounds", x.wage(300, 999, 12, 1), (84 - 3) * 10 + 192 - 81);
        int[][] none = {{-1, 0, 1, 0}, {301, 0, 1, 0}, {0, -1, 1, 0}, {0, 1000, 1, 0}, {0, 0, 0, 0}, {0, 0, 13, 0}, {0, 0, 1, -1}, {0, 0, 1, 2}};
        for (int[] a : none) {
            C.due("wage of none", x.wage(a[0], a[1], a[2], a[3]), -2);
        }
        C.due("without a SUM", Check.with(LAW).wage(100, 0, 1, 0), 0);
    }

    private static void wagesThatComeToNothing() {
        wage("5 over 0", 0, 0, 1, 0);
        wage("9 plus 5 over school", 0, 0, 1, 0);
        wage("9 plus 5 over school", 1, 0, 1, 14);
        wage("0 over 0 plus 9", 0, 0, 1, 0);
        // 1,000,000,000 is not beyond, and one more is
        wage("100 times 100 times 100 times 100 times 10 over 500 over 500", 0, 0, 1, 4000);
        wage("100 times 100 times 100 times 100 times 10 plus 1 minus 100 times 100 times 100 times 100 times 10", 0, 0, 1, 0);
        wage("100 times 100 times 100 times 100 times 10 plus 0 minus 100 times 100 times 100 times 100 times 10 plus 5", 0, 0, 1, 5);
        wage("100 times 100 times 100 times 100 times 10 plus 1", 0, 0, 1, 0);
        wage("100 times 100 times 100 times 100 times 10", 0, 0, 1, 9999);
        wage("0 minus 100 times 100 times 100 times 100 times 10 minus 1 plus 999 times 999 times 999 plus 999 times 999 times 9", 0, 0, 1, 0);
        wage("0 minus 100 times 100 times 100 times 100 times 10 plus 100 times 100 times 100 times 100 times 10 plus 7", 0, 0, 1, 7);
        wage("999 times 999 times 999 times 2 over 999 over 999", 0, 0, 1, 0);
        wage("999 times 999 times 999 over 999 over 999", 0, 0, 1, 999);
        wage("999 times 999 times 999 times 999 times 999 times 999 times 999 times 999 times 0", 0, 0, 1, 0);
        wage("1 plus 999 times 999 times 999 times 2 times 0", 0, 0, 1, 0);
    }
}
