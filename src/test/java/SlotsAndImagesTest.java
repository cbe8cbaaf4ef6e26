/** Promises 39 to 44: count, keep, back, row, write, paste. */
public final class SlotsAndImagesTest {
    private static final Check C = new Check("SlotsAndImagesTest");

    public static void main(String[] args) {
        rows();
        writes();
        widths();
        pastes();
        pastesOfNone();
        images();
        imagesKeepAllOfTheLand();
        C.close();
    }

    /* What a row has is seen through judge(): SHEETS with these as SCHOOL. */
    private static void rowIs(MonthPush x, int slot, int... due) {
        x.keep(2);
        Check.tell(x, "law enter 6 leave 15;");
        x.only(0);
        for (int i = 0; i < due.length; i++) {
            x.sheet(0, 1, due[i], 0);
        }
        C.due("judge", x.judge(slot), due.length);
        x.back(2);
    }

    private static void rows() {
        MonthPush x = new MonthPush();
        C.due("no rows", x.count(7), 0);
        int[][] none = {{-1, 0, 1}, {4, 0, 1}, {0, -1, 1}, {0, 4, 1}, {0, 0, 61}, {4, 0, -1}, {0, 4, -1}, {0, 0, Integer.MAX_VALUE}};
        for (int[] a : none) {
            C.due("row of none", x.row(a[0], a[1], a[2]), -2);
        }
        C.due("n below 0", x.row(0, 0, -1), -3);
        C.due("n far below 0", x.row(0, 0, Integer.MIN_VALUE), -3);
        C.due("no rows still", x.count(7), 0);
        C.due("row of 0", x.row(0, 3, 0), 0);
        C.due("a row", x.count(7), 1);
        C.due("no number 0", x.write(0, 0, 1), -7);
        C.due("row of 60", x.row(0, 2, 60), 0);
        C.due("still one", x.count(7), 1);
        C.due("number 59", x.write(0, 59, 1), 0);
        C.due("number 60", x.write(0, 60, 1), -7);
        x.write(0, 0, 7);
        C.due("n below 0, and the SLOT stays", x.row(0, 1, -1), -3);
        rowIs(x, 0, 7, 0, 0);
        C.due("another row", x.row(0, 2, 3), 0);
        rowIs(x, 0, 0, 0, 0);
        C.due("SLOT 3", x.row(3, 0, 1), 0);
        C.due("two rows", x.count(7), 2);
    }

    private static void writes() {
        MonthPush x = new MonthPush();
        C.due("SLOT 4", x.write(4, 0, 1), -2);
        C.due("SLOT -1", x.write(-1, 0, 1), -2);
        C.due("nothing", x.write(0, 0, 1), -6);
        C.due("nothing, no number", x.write(0, -1, 1), -6);
        x.row(0, 1, 3);
        C.due("write", x.write(0, 0, 5), 0);
        C.due("number -1", x.write(0, -1, 5), -7);
        C.due("number 3", x.write(0, 3, 5), -7);
        C.due("number MAX", x.write(0, Integer.MAX_VALUE, 5), -7);
        C.due("write", x.write(0, 2, 6), 0);
        rowIs(x, 0, 5, 0, 6);
    }

    private static void widths() {
        MonthPush x = new MonthPush();
        for (int width = 0; width < 4; width++) {
            int bits = 8 << width;
            x.row(0, width, 5);
            x.write(0, 0, 100);
            x.write(0, 1, bits == 64 ? 7 : 7 + (1L << bits));
            x.write(0, 2, bits == 64 ? 7 : 7 - (1L << bits));
            x.write(0, 3, 127);
            rowIs(x, 0, 100, 7, 7, 127);
        }
        x.row(0, 0, 1);
        x.write(0, 0, 200);
        seen(x, 0);
        x.row(0, 1, 1);
        x.write(0, 0, 200);
        seen(x, 1);
        x.write(0, 0, 65536 + 200);
        seen(x, 1);
        x.row(0, 3, 1);
        x.write(0, 0, (1L << 32) + 200);
        seen(x, 0);
    }

    private static void seen(MonthPush x, int due) {
        x.keep(2);
        Check.tell(x, "law enter 6 leave 15;");
        x.only(0);
        x.sheet(0, 1, 200, 0);
        C.due("200 is there", x.judge(0), due);
        x.back(2);
    }

    private static void pastes() {
        MonthPush x = new MonthPush();
        x.row(0, 1, 5);
        x.row(1, 1, 4);
        for (int i = 0; i < 5; i++) {
            x.write(0, i, 10 + i);
        }
        C.due("to another", x.paste(0, 1, 1, 2, 2), 0);
        rowIs(x, 1, 0, 0, 11, 12);
        rowIs(x, 0, 10, 11, 12, 13, 14);
        C.due("to its own, upwards", x.paste(0, 0, 0, 1, 4), 0);
        rowIs(x, 0, 10, 10, 11, 12, 13);
        C.due("to its own, downwards", x.paste(0, 1, 0, 0, 4), 0);
        rowIs(x, 0, 10, 11, 12, 13, 13);
        C.due("none at the end", x.paste(0, 5, 1, 4, 0), 0);
        C.due("all", x.paste(1, 0, 0, 1, 4), 0);
        rowIs(x, 0, 10, 0, 0, 11, 12);
    }

    private static void pastesOfNone() {
        MonthPush x = new MonthPush();
        x.row(0, 1, 5);
        x.row(1, 1, 4);
        x.row(2, 2, 4);
        x.write(0, 0, 9);
        int[][] due = {{-1, 0, 0, 0, 1, -2}, {0, 0, 4, 0, 1, -2}, {4, 0, 3, 0, 1, -2}, {0, 0, 3, 0, 1, -6}, {3, 0, 0, 0, 1, -6}, {3, 0, 3, 0, -1, -6},
            {0, 0, 2, 0, 1, -8}, {2, 9, 0, 0, -1, -8}, {0, 0, 1, 0, 5, -7}, {0, 2, 1, 0, 4, -7}, {0, 0, 1, 1, 4, -7}, {0, -1, 1, 0, 1, -7},
            {0, 0, 1, -1, 1, -7}, {0, 0, 1, 0, -1, -7}, {0, Integer.MAX_VALUE, 1, 0, 1, -7}, {0, 0, 1, Integer.MAX_VALUE, 1, -7},
            {0, 1, 1, 1, Integer.MAX_VALUE, -7}, {0, 0, 1, 0, Integer.MIN_VALUE, -7}, {0, 1, 0, 0, 5, -7}};
        for (int[] a : due) {
            C.due("paste of none", x.paste(a[0], a[1], a[2], a[3], a[4]), a[5]);
        }
        rowIs(x, 0, 9, 0, 0, 0, 0);
        rowIs(x, 1, 0, 0, 0, 0);
    }

    private static void images() {
        MonthPush x = Check.with("law enter 6 leave 15;");
        int[] none = {-1, 3, Integer.MIN_VALUE, Integer.MAX_VALUE};
        for (int k : none) {
            C.due("keep of none", x.keep(k), -2);
            C.due("back of none", x.back(k), -2);
        }
        C.due("back of nothing", x.back(0), -6);
        C.due("back of nothing", x.back(2), -6);
        x.sheet(0, 1, 100, 7);
        C.due("keep(2)", x.keep(2), 0);
        C.due("back of nothing still", x.back(1), -6);
        x.sheet(0, 2, 200, 8);
        Check.feedText(x, "law enter 7 leave 16;law enter 8 leave 17;");
        x.land();
        C.due("keep(0)", x.keep(0), 0);
        Check.feedText(x, "noise");
        x.row(0, 0, 1);
        C.due("back(2)", x.back(2), 0);
        C.due("SHEETS", x.count(2), 1);
        C.due("laws", x.count(0), 1);
        C.due("forced", x.forced(0, 1), 100);
        C.due("the TAPE stays", x.count(6), 5);
        C.due("SLOTS stay", x.count(7), 1);
        x.sheet(0, 3, 1, 1);
        x.sheet(0, 3, 1, 1);
        C.due("back(2) again", x.back(2), 0);
        C.due("what comes later is not in it", x.count(2), 1);
        C.due("back(0)", x.back(0), 0);
        C.due("SHEETS", x.count(2), 2);
        C.due("laws", x.count(0), 2);
        C.due("told", x.told(1, 2), 200);
        C.due("keep(2) in place of another", x.keep(2), 0);
        x.only(1);
        C.due("back(2)", x.back(2), 0);
        C.due("SHEETS", x.count(2), 2);
    }

    private static void imagesKeepAllOfTheLand() {
        String text = "law enter 6 leave 15;law enter 5 leave 14;sort share 2 gift 5 wish 90 spread 30;sort share 1 gift 40 wish 120;"
            + "wage school times 4 over 3 plus gift minus 7;leak 1 by 9;leak 11 by 5;noise 80;";
        MonthPush x = Check.with(text);
        MonthPush y = Check.with(text);
        x.draw(5, 100);
        x.keep(1);
        Check.tell(x, "law enter 9 leave 20;sort share 9 gift 9 wish 9;wage 1;leak 2 by 2;noise 3;");
        x.draw(6, 200);
        x.back(1);
        y.draw(5, 100);
        for (int round = 0; round < 2; round++) {
            for (int i = 0; i < 100; i++) {
                for (int what = 0; what < 6; what++) {
                    C.due("told", x.told(i, what), y.told(i, what));
                }
            }
            for (int what = 0; what < 6; what++) {
                C.due("count", x.count(what), y.count(what));
            }
            C.due("wage", x.wage(100, 5, 1, 1), y.wage(100, 5, 1, 1));
            x.draw(8, 100);
            y.draw(8, 100);
        }
    }
}
