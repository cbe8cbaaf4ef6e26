/** Promises 29 to 35: whom, truth, leans, least, beside, needs, worlds. */
public final class HeldTest {
    private static final Check C = new Check("HeldTest");
    private static final long NOTHING = Check.NOTHING;

    public static void main(String[] args) {
        whomItHeld();
        truths();
        leaning();
        leansLeast();
        besides();
        needed();
        worldsOfOneWish();
        worldsOfNone();
        worldsAsDrawn();
        C.close();
    }

    private static MonthPush heldOnes() {
        MonthPush x = Check.with("law enter 6 leave 15;law enter 6 leave 20;wage school times 5 over 2 plus month;");
        x.sheet(0, 1, 99, 240);
        x.sheet(0, 1, 100, 250);
        x.sheet(0, 12, 110, 290);
        x.sheet(1, 12, 120, 300);
        return x;
    }

    private static void whomItHeld() {
        MonthPush x = heldOnes();
        C.due("whom(0)", x.whom(0), 3);
        C.due("whom(1)", x.whom(1), 3);
        C.due("whom(2)", x.whom(2), -1);
        C.due("whom(-1)", x.whom(-1), -1);
        Check.tell(x, "law enter 6 leave 15;wage school over 100;");
        C.due("a STATE less", x.whom(0), 2);
        C.due("one at a step", x.whom(1), 1);
        Check.tell(x, "law enter 6 leave 15;");
        C.due("without a SUM", x.whom(1), 0);
    }

    private static void truths() {
        MonthPush x = heldOnes();
        // 99: 247 to 250, 100: 250 to 252, 110: 275 to 277, 120: 300 to 302
        C.due("of HELD ones", x.truth(true), 1000 * (3 + 2 + 2) / 3);
        C.due("of all", x.truth(false), 1000 * (3 + 2 + 2 + 2) / 4);
        Check.tell(x, "law enter 6 leave 15;wage school times 5 over 2 plus month;");
        C.due("the STATE of one is none now", x.truth(false), NOTHING);
        C.due("of HELD ones, whose STATE is there", x.truth(true), 2500);
        Check.tell(x, "law enter 9 leave 10;wage 999 minus school;");
        C.due("none are HELD", x.truth(true), NOTHING);
        Check.tell(x, "law enter 6 leave 15;law enter 6 leave 15;wage 999 minus school;");
        C.due("below 0", x.truth(false), -1000);
        MonthPush y = new MonthPush();
        C.due("none", y.truth(false), NOTHING);
        C.due("none", y.truth(true), NOTHING);
    }

    private static MonthPush fourHeld() {
        MonthPush x = WorthTest.four();
        Check.tell(x, "law enter 6 leave 18;wage school times 4;");
        return x;
    }

    private static void leaning() {
        MonthPush x = fourHeld();
        C.due("truth", x.truth(true), 4000);
        C.due("PLAIN leans", x.leans(0, 2048), 200);
        C.due("BY THE PUSH leans", x.leans(1, 2048), 1000);
        C.due("MANY leans", x.leans(2, 2048), 1000);
        C.due("what 3", x.leans(3, 2048), NOTHING);
        C.due("what -1", x.leans(-1, 2048), NOTHING);
        C.due("no such PUSH", x.leans(1, 4095), NOTHING);
        C.due("none are MOVED", x.leans(1, 2), NOTHING);
        C.due("PLAIN needs no PUSH", x.leans(0, 4095), 200);
        C.due("MANY needs no PUSH", x.leans(2, 0), 1000);
        Check.tell(x, "law enter 6 leave 18;wage school times 6;");
        C.due("PLAIN leans below", x.leans(0, 2048), -1800);
        Check.tell(x, "law enter 9 leave 10;wage school times 6;");
        C.due("truth can't be told", x.leans(0, 2048), NOTHING);
        C.due("least", x.least(2048), -1);
    }

    private static void leansLeast() {
        MonthPush x = fourHeld();
        C.due("PLAIN", x.least(2048), 0);
        Check.tell(x, "law enter 6 leave 18;wage school times 5;");
        C.due("BY THE PUSH ahead of MANY", x.least(2048), 1);
        C.due("MANY without a PUSH", x.least(0), 2);
        C.due("MANY if none are MOVED", x.least(2), 2);
        Check.tell(x, "law enter 6 leave 18;wage school times 99;");
        C.due("from below", x.least(2048), 1);
        C.due("of none", new MonthPush().least(1), -1);
    }

    private static void besides() {
        MonthPush x = Check.with("law enter 6 leave 15;law enter 6 leave 16;wage school times 2 plus old times 3 minus forced;");
        x.sheet(1, 1, 200, 5);
        x.sheet(0, 6, 200, 5);
        C.due("as it is", x.beside(0, 1), 0);
        C.due("beside(0, 12)", x.beside(0, 12), -44);
        C.due("beside(1, 1)", x.beside(1, 1), 20);
        C.due("beside(0, 0)", x.beside(0, 0), NOTHING);
        C.due("beside(0, 13)", x.beside(0, 13), NOTHING);
        C.due("beside(2, 1)", x.beside(2, 1), NOTHING);
        C.due("beside(-1, 1)", x.beside(-1, 1), NOTHING);
        Check.tell(x, "law enter 6 leave 15;wage month;");
        C.due("its STATE is none now", x.beside(0, 1), NOTHING);
        C.due("by MONTH", x.beside(1, 11), 5);
    }

    private static void needed() {
        MonthPush x = WorthTest.four();
        C.due("needs 0", x.needs(2048, 0), 3);
        C.due("needs 300", x.needs(2048, 300), 3);
        C.due("needs 301", x.needs(2048, 301), 4);
        C.due("needs 800", x.needs(2048, 800), 4);
        C.due("needs 801", x.needs(2048, 801), -1);
        C.due("needs the most", x.needs(2048, 1000000), -1);
        C.due("none are MOVED", x.needs(2, 0), -1);
        int[][] none = {{0, 0}, {4095, 0}, {2048, -1}, {2048, 1000001}, {-5, 5}};
        for (int[] a : none) {
            C.due("needs of none", x.needs(a[0], a[1]), -2);
        }
        MonthPush y = Check.with("law enter 6 leave 15;");
        C.due("no SHEETS", y.needs(1, 0), -1);
        y.sheet(0, 1, 1, 1);
        y.sheet(0, 2, 2, 1);
        C.due("two SHEETS", y.needs(1, 0), -1);
        y.sheet(0, 2, 2, 1);
        C.due("without a rest", y.needs(1, 1000000), 3);
    }

    private static void worldsOfOneWish() {
        // no leak, no noise, all of it by the month: truth is 3 and kept in every world
        MonthPush x = Check.with("law enter 6 leave 15;sort share 1 gift 5 wish 0;wage school times 3 plus gift;");
        x.draw(9, 200);
        C.due("truth", x.truth(true), 3000);
        C.due("in the TRUE SPANS", x.worlds(63, 1, 20, 1, 0), 20);
        C.due("in the USUAL SPANS", x.worlds(63, 1, 20, 1, 1), 20);
        C.due("STRONG ones", x.worlds(63, 1, 20, 1, 2), 20);
        C.due("the SHEETS stay", x.told(0, 1), drawnMonth(9));
        C.due("count(2)", x.count(2), 200);
        // all are HELD no more
        MonthPush y = Check.with("law enter 6 leave 15;sort share 1 gift 5 wish 240;wage school times 3 plus gift;");
        y.draw(9, 200);
        C.due("no truth", y.worlds(63, 1, 20, 10, 0), 0);
        C.due("no truth", y.worlds(63, 1, 20, 10, 1), 0);
        C.due("no gap", y.worlds(63, 1, 20, 10, 2), 0);
        // a month is worth more than any number of a span
        MonthPush z = Check.with("law enter 9 leave 10;sort share 1 gift 5 wish 0;wage school times 100;");
        z.draw(9, 50);
        C.due("beyond all numbers", z.worlds(63, 1, 20, 10, 0), 0);
        C.due("beyond all numbers", z.worlds(63, 1, 20, 10, 1), 0);
        Check.tell(z, "law enter 9 leave 10;sort share 1 gift 5 wish 0;wage school times 99;");
        C.due("the greatest number", z.worlds(63, 1, 20, 10, 0), 20);
        C.due("the greatest number", z.worlds(63, 1, 20, 10, 1), 20);
        Check.tell(z, "law enter 9 leave 10;sort share 1 gift 5 wish 0;wage 99 times 99 minus school times 99;");
        C.due("the least number", z.worlds(63, 1, 20, 10, 0), 20);
        C.due("the least number", z.worlds(63, 1, 20, 10, 1), 20);
    }

    private static int drawnMonth(int seed) {
        long x = seed;
        for (int i = 0; i < 2; i++) {
            x = (1103515245L * x + 12345L) % 2147483648L;
        }
        return (int) (x / 65536 % 12) + 1;
    }

    private static void worldsOfNone() {
        MonthPush x = Check.with("law enter 6 leave 15;sort share 1 gift 5 wish 0;");
        C.due("no SHEETS", x.worlds(1, 1, 1, 1, 0), -6);
        x.draw(1, 5);
        int[][] none = {{0, 1, 1, 1, 0}, {4095, 1, 1, 1, 0}, {1, -1, 1, 1, 0}, {1, 2000000001, 1, 1, 0}, {1, 1, 0, 1, 0}, {1, 1, 21, 1, 0},
            {1, 1, 1, 0, 0}, {1, 1, 1, 11, 0}, {1, 1, 1, 1, -1}, {1, 1, 1, 1, 3}};
        for (int[] a : none) {
            C.due("worlds of none", x.worlds(a[0], a[1], a[2], a[3], a[4]), -2);
        }
        Check.tell(x, "law enter 6 leave 15;");
        C.due("no sort", x.worlds(1, 1, 1, 1, 0), -6);
        C.due("no sort, no such what", x.worlds(1, 1, 1, 1, 3), -2);
        Check.tell(x, "sort share 1 gift 5 wish 0;");
        C.due("no law", x.worlds(1, 1, 1, 1, 0), -6);
    }

    /** Many worlds are the same as drawing each of them. */
    private static void worldsAsDrawn() {
        MonthPush x = Check.with("law enter 6 leave 15;law enter 7 leave 16;sort share 2 gift 5 wish 90 spread 30;sort share 1 gift 40 wish 120 spread 9;"
            + "wage school times 4 plus gift times 3 plus old;leak 1 by 9;leak 2 by 5;noise 80;");
        for (int push = 1; push < 4095; push += 211) {
            int[] due = new int[3];
            for (int seed = 1999999998; seed <= 2000000000; seed++) {
                x.draw(seed, 60);
                int whole = (int) (x.truth(true) / 1000);
                due[0] += x.kept(push, 2, whole) == 1 ? 1 : 0;
                due[1] += x.usual(push, 2, 0) > 0 && x.usual(push, 2, 1) <= whole && x.usual(push, 2, 2) >= whole ? 1 : 0;
                due[2] += x.strong(push) >= 1000 ? 1 : 0;
            }
            for (int what = 0; what < 3; what++) {
                C.due("worlds by " + push + ", " + what, x.worlds(push, 1999999998, 3, 2, what), due[what]);
            }
            C.holds("a seed at its end", x.worlds(push, 2000000000, 20, 2, 2) >= 0);
        }
        MonthPush y = Check.with("law enter 6 leave 15;sort share 1 gift 5 wish 0;wage school times 3;");
        y.draw(51, 4);
        C.due("strong by 1,000 and no more", y.strong(3), 1000);
        C.due("that is enough", y.worlds(3, 51, 1, 1, 2), 1);
    }
}
