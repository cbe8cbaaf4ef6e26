/** Promises 22 to 25: span, usual, kept, hats. */
public final class SpanTest {
    private static final Check C = new Check("SpanTest");
    private static final long NOTHING = Check.NOTHING;

    public static void main(String[] args) {
        spans();
        spansOfNone();
        emptySpans();
        usualBeyond();
        keptOnes();
        hats();
        hatsOfNone();
        C.close();
    }

    private static void spanIs(MonthPush x, int push, int k, long... due) {
        for (int what = 0; what < 4; what++) {
            C.due("span(" + push + ", " + k + ", " + what + ")", x.span(push, k, what), due[what]);
        }
    }

    private static void usualIs(MonthPush x, int push, int k, long... due) {
        for (int what = 0; what < 4; what++) {
            C.due("usual(" + push + ", " + k + ", " + what + ")", x.usual(push, k, what), due[what]);
        }
    }

    private static void spans() {
        // of the four sheets D is 80 (5 - b) and Q 400 (b - 1) (b - 1): 8 (5 - b)(5 - b) is not above k (b - 1)(b - 1)
        MonthPush x = WorthTest.four();
        spanIs(x, 2048, 1, 4, 4, 7, 1);
        spanIs(x, 1, 1, 4, 4, 7, 1);
        spanIs(x, 2048, 10, 164, -99, 99, 0);
        // with the Q of 5: (5 - b)(5 - b) is not above 2 k
        usualIs(x, 2048, 1, 3, 4, 6, 1);
        usualIs(x, 2048, 2, 5, 3, 7, 1);
        usualIs(x, 2048, 10, 9, 1, 9, 1);
    }

    private static void spansOfNone() {
        MonthPush x = WorthTest.four();
        int[][] none = {{2048, 0, 0}, {2048, 11, 0}, {2048, 1, -1}, {2048, 1, 4}, {0, 1, 0}, {4095, 1, 0}, {2, 1, 0}, {2049, 1, 0}};
        for (int[] a : none) {
            C.due("span of none", x.span(a[0], a[1], a[2]), NOTHING);
            C.due("usual of none", x.usual(a[0], a[1], a[2]), NOTHING);
        }
        MonthPush y = Check.with("law enter 6 leave 15;");
        y.sheet(0, 1, 1, 1);
        y.sheet(0, 2, 2, 2);
        C.due("span of two", y.span(1, 1, 0), NOTHING);
        C.due("usual of two", y.usual(1, 1, 0), NOTHING);
        C.due("kept of two", y.kept(1, 1, 0), -2);
        y.sheet(0, 2, 3, 3);
        C.due("span of three", y.span(1, 1, 1), 1);
        MonthPush z = Check.with("law enter 6 leave 15;");
        z.sheet(0, 1, 5, 1);
        z.sheet(0, 1, 5, 7);
        z.sheet(0, 2, 5, 4);
        C.due("usual without BY THE PUSH", z.usual(1, 1, 0), NOTHING);
        C.due("span of a push that moves nothing", z.span(1, 1, 0), 199);
    }

    private static void emptySpans() {
        MonthPush x = Check.with("law enter 6 leave 15;");
        x.sheet(0, 1, 5, 0);
        x.sheet(0, 1, 5, 0);
        x.sheet(0, 2, 7, 5);
        // no rest at all: only where D is 0, and that is at 2.5
        spanIs(x, 2, 10, 0, NOTHING, NOTHING, 0);
        usualIs(x, 2, 10, 0, NOTHING, NOTHING, 0);
        C.due("kept", x.kept(2, 10, 2), 0);
        MonthPush y = Check.with("law enter 6 leave 15;");
        y.sheet(0, 1, 5, 0);
        y.sheet(0, 1, 5, 0);
        y.sheet(0, 2, 7, 6);
        spanIs(y, 2, 1, 1, 3, 3, 1);
        usualIs(y, 2, 1, 1, 3, 3, 1);
    }

    private static void usualBeyond() {
        MonthPush x = Check.with("law enter 6 leave 15;");
        x.sheet(0, 1, 5, 0);
        x.sheet(0, 1, 5, 0);
        x.sheet(0, 2, 6, 100);
        C.due("by", x.by(2), 100000);
        C.due("usual beyond", x.usual(2, 1, 0), NOTHING);
        MonthPush y = Check.with("law enter 6 leave 15;");
        y.sheet(0, 2, 5, 0);
        y.sheet(0, 2, 5, 0);
        y.sheet(0, 1, 6, 99);
        C.due("usual at its end", y.usual(2, 1, 1), 99);
        MonthPush v = Check.with("law enter 6 leave 15;");
        v.sheet(0, 2, 5, 99);
        v.sheet(0, 2, 5, 99);
        v.sheet(0, 1, 6, 0);
        C.due("usual at its other end", v.usual(2, 1, 1), -99);
        MonthPush z = Check.with("law enter 6 leave 15;");
        z.sheet(0, 2, 5, 200);
        z.sheet(0, 2, 5, 200);
        z.sheet(0, 1, 6, 100);
        C.due("usual below", z.usual(2, 1, 1), NOTHING);
        C.due("the true one stands", z.span(2, 1, 0), 0);
    }

    private static void keptOnes() {
        MonthPush x = WorthTest.four();
        int[][] due = {{10, -33, 1}, {10, -32, 0}, {10, 0, 0}, {10, 2, 0}, {10, 3, 1}, {10, 99, 1}, {10, -99, 1}, {1, 3, 0}, {1, 4, 1}, {1, 7, 1}, {1, 8, 0}};
        for (int[] a : due) {
            C.due("kept(2048, " + a[0] + ", " + a[1] + ")", x.kept(2048, a[0], a[1]), a[2]);
        }
        int[][] none = {{2048, 1, 100}, {2048, 1, -100}, {2048, 0, 1}, {2048, 11, 1}, {0, 1, 1}, {4095, 1, 1}, {2, 1, 1}, {2049, 1, 1}};
        for (int[] a : none) {
            C.due("kept of none", x.kept(a[0], a[1], a[2]), -2);
        }
    }

    private static void hats() {
        MonthPush x = WorthTest.four();
        // from the seed 0: 0 0 0 1, then 0 1 1 1
        // by the first HAT: (410 3 - 1010) by (130 3 - 330) = 220 by 60 = 3.666; PLAIN is 4.2
        C.due("one HAT tells", x.hats(0, 1, 1, 0), 1);
        C.due("near PLAIN", x.hats(0, 1, 1, 1), 1);
        // n 1, m 3; D 220 at 0; left of WAGE at 3: 0, -20, 40, 20; Q 3 2400 - 20 20 3 - 20 20 = 5600
        C.due("0 is outside: 48,400 is above 1 4 5600 by 2", x.hats(0, 1, 1, 2), 1);
        C.due("0 is outside: 48,400 is above 4 4 5600 by 2", x.hats(0, 1, 4, 2), 1);
        C.due("0 is inside: 48,400 is not above 5 4 5600 by 2", x.hats(0, 1, 5, 2), 0);
        // by the second HAT: w 1120, v 300, s 360, t 100: (1120 - 900) by (360 - 300) = 3.666
        C.due("two HATS tell", x.hats(0, 2, 1, 0), 2);
        C.due("two near PLAIN", x.hats(0, 2, 1, 1), 2);
        nearPlain(-1000, 1, 2, 14, 3, 20, 1, 29, 0, 35);
        nearPlain(1000, 1, 10, 36, 10, 21, 6, 29, 10, 30);
        nearPlain(1001, 0, 1, 23, 4, 14, 0, 23, 8, 33);
        nearPlain(-1001, 0, 2, 1, 10, 13, 5, 17, 4, 10);
        MonthPush y = Check.with("law enter 6 leave 15;");
        C.due("HATS of no SHEETS", y.hats(0, 40, 1, 0), 0);
        C.due("USUAL SPANS of no SHEETS", y.hats(0, 40, 1, 2), 0);
        C.due("PLAIN of no SHEETS", y.hats(0, 40, 1, 1), NOTHING);
        y.sheet(0, 1, 5, 1);
        y.sheet(0, 1, 5, 2);
        y.sheet(0, 1, 5, 3);
        C.due("HATS without a gap", y.hats(5, 40, 1, 0), 0);
        C.due("PLAIN without a gap", y.hats(5, 40, 1, 1), NOTHING);
    }

    /** The first HAT of the seed 0 moves the fourth SHEET alone: as a PUSH of its MONTH does. */
    private static void nearPlain(long apart, int due, int... schoolsAndWages) {
        MonthPush x = Check.with("law enter 6 leave 15;");
        for (int i = 0; i < 4; i++) {
            x.sheet(0, i < 3 ? 1 : 2, schoolsAndWages[2 * i], schoolsAndWages[2 * i + 1]);
        }
        C.due("apart", x.by(2) - x.plain(), apart);
        C.due("within 1,000 of PLAIN", x.hats(0, 1, 1, 1), due);
    }

    private static void hatsOfNone() {
        MonthPush x = WorthTest.four();
        int[][] none = {{-1, 1, 1, 0}, {2000000001, 1, 1, 0}, {0, 0, 1, 0}, {0, 41, 1, 0}, {0, 1, 0, 0}, {0, 1, 11, 0}, {0, 1, 1, -1}, {0, 1, 1, 3}};
        for (int[] a : none) {
            C.due("hats of none", x.hats(a[0], a[1], a[2], a[3]), -2);
        }
        C.due("no such n ahead of PLAIN", new MonthPush().hats(0, 0, 1, 1), -2);
        C.holds("the greatest numbers", x.hats(2000000000, 40, 10, 0) > 0);
    }
}
