/** Promises 15 to 21, 26 to 28: plain, by, many, groups, moves, strong, strongest, leak, leaked, homes. */
public final class WorthTest {
    private static final Check C = new Check("WorthTest");
    private static final long NOTHING = Check.NOTHING;

    public static void main(String[] args) {
        fourSheets();
        signs();
        whatCanNotBeTold();
        pushesOfNone();
        strongOnes();
        manyGroups();
        strongestMonths();
        homesOfDrawn();
        C.close();
    }

    static MonthPush four() {
        MonthPush x = Check.with("law enter 6 leave 15;law enter 6 leave 16;");
        x.sheet(0, 1, 100, 300);
        x.sheet(0, 1, 110, 310);
        x.sheet(0, 12, 120, 400);
        x.sheet(0, 12, 130, 410);
        return x;
    }

    private static void fourSheets() {
        MonthPush x = four();
        C.due("plain", x.plain(), 4200);
        C.due("by", x.by(2048), 5000);
        C.due("by the others", x.by(1), 5000);
        C.due("by with months of nobody", x.by(2048 + 4), 5000);
        C.due("many", x.many(), 5000);
        C.due("groups", x.groups(), 2);
        C.due("moves", x.moves(2048), 20000);
        C.due("moves the others", x.moves(1), -20000);
        C.due("strong", x.strong(2048), 800);
        C.due("leak", x.leak(2048), 100000);
        C.due("leak", x.leak(1), -100000);
        C.due("leaked all", x.leaked(2048, 100000), 0);
        C.due("leaked none", x.leaked(2048, 0), 5000);
        C.due("leaked half", x.leaked(2048, 50000), 2500);
        C.due("leaked the other way", x.leaked(2048, -50000), 7500);
        C.due("leaked the most", x.leaked(2048, 9999999), (400000 - 9999999L * 4) / 80);
        C.due("leaked the least", x.leaked(2048, -9999999), (400000 + 9999999L * 4) / 80);
        C.due("leaked beyond", x.leaked(2048, 10000000), NOTHING);
        C.due("leaked below", x.leaked(2048, -10000000), NOTHING);
        C.due("leaked cut", x.leaked(2048, 1), 4999);
        C.due("leaked cut towards 0", x.leaked(2048, 100001), 0);
        C.due("leaked cut towards 0", x.leaked(2048, 100021), -1);
        C.due("homes", x.homes(2048), 0);
        C.due("strongest", x.strongest(), 1);
    }

    private static void signs() {
        MonthPush x = Check.with("law enter 6 leave 15;");
        x.sheet(0, 1, 0, 10);
        x.sheet(0, 2, 3, 0);
        x.sheet(0, 2, 0, 0);
        // n 2, s 3, w 0; m 1, t 0, v 10: (0 - 20) by (3 - 0)
        C.due("cut towards 0", x.by(2), -6666);
        C.due("the same by the others", x.by(1), -6666);
        C.due("moves", x.moves(2), 1500);
        C.due("leak", x.leak(1), 10000);
        // 3 (0) - 3 10 by 27 - 9
        C.due("plain below 0", x.plain(), -1666);
        C.due("moves cut towards 0", thirds().moves(2), -666);
    }

    private static MonthPush thirds() {
        MonthPush x = Check.with("law enter 6 leave 15;");
        x.sheet(0, 1, 1, 0);
        x.sheet(0, 2, 1, 0);
        x.sheet(0, 2, 0, 0);
        x.sheet(0, 2, 0, 0);
        return x;
    }

    private static void whatCanNotBeTold() {
        MonthPush x = Check.with("law enter 6 leave 15;");
        C.due("plain of none", x.plain(), NOTHING);
        C.due("many of none", x.many(), NOTHING);
        C.due("groups of none", x.groups(), 0);
        x.sheet(0, 1, 5, 5);
        C.due("plain of one", x.plain(), NOTHING);
        C.due("by of all", x.by(1), NOTHING);
        C.due("moves of all", x.moves(1), NOTHING);
        C.due("moves of none", x.moves(2), NOTHING);
        C.due("leak of all", x.leak(1), NOTHING);
        C.due("homes of none", x.homes(2), NOTHING);
        C.due("leaked of none", x.leaked(2, 1), NOTHING);
        x.sheet(0, 2, 5, 9);
        C.due("by without a gap", x.by(2), NOTHING);
        C.due("leaked without a gap", x.leaked(2, 1), NOTHING);
        C.due("plain without a gap", x.plain(), NOTHING);
        C.due("many without a gap", x.many(), NOTHING);
        C.due("groups", x.groups(), 2);
        C.due("moves by 0", x.moves(2), 0);
        C.due("leak by 4", x.leak(2), 4000);
        C.due("strong of two", x.strong(2), NOTHING);
        C.due("strongest of two", x.strongest(), -1);
        x.sheet(0, 2, 5, 9);
        C.due("strong of three, no gap", x.strong(2), 0);
        C.due("strongest", x.strongest(), 1);
    }

    private static void pushesOfNone() {
        MonthPush x = four();
        int[] none = {0, -1, 4095, 4096, 4096 + 2048, Integer.MIN_VALUE, Integer.MAX_VALUE};
        for (int push : none) {
            C.due("by " + push, x.by(push), NOTHING);
            C.due("moves " + push, x.moves(push), NOTHING);
            C.due("strong " + push, x.strong(push), NOTHING);
            C.due("leak " + push, x.leak(push), NOTHING);
            C.due("leaked " + push, x.leaked(push, 0), NOTHING);
            C.due("homes " + push, x.homes(push), NOTHING);
        }
        C.due("by 4094", x.by(4094), 5000);
        C.due("by 4093, all", x.by(4093), NOTHING);
    }

    private static void strongOnes() {
        MonthPush x = Check.with("law enter 6 leave 15;");
        x.sheet(0, 1, 5, 1);
        x.sheet(0, 1, 5, 2);
        x.sheet(0, 2, 6, 3);
        C.due("without a rest", x.strong(2), 999999999);
        x.sheet(0, 2, 8, 3);
        // n 2, s 14; m 2, t 10: D 8; Q 4 (25 + 25 + 36 + 64) - 196 2 - 100 2 = 8; 2 64 by 4 8
        C.due("strong", x.strong(2), 400);
        x.sheet(0, 2, 9, 3);
        // n 3, s 23; m 2, t 10: D 16; Q 6 231 - 529 2 - 100 3 = 28; 3 256 by 5 28 = 5.485
        C.due("strong, cut", x.strong(2), 548);
        MonthPush y = Check.with("law enter 6 leave 15;");
        for (int i = 0; i < 100; i++) {
            y.sheet(0, 1, i == 0 ? 1 : 0, 1);
            y.sheet(0, 2, 300, 1);
        }
        long d = 300L * 100 * 100 - 100;
        long q = 10000L * (1 + 100 * 90000L) - 100 - 30000L * 30000L * 100;
        C.due("above 999,999,999", y.strong(2), 100 * 198 * d * d / (200 * q));
        C.holds("far above", y.strong(2) > 999999999L);
    }

    private static void manyGroups() {
        MonthPush x = Check.with("law enter 6 leave 15;law enter 6 leave 16;");
        x.sheet(0, 1, 3, 10);
        x.sheet(0, 1, 4, 11);
        x.sheet(1, 1, 9, 20);
        x.sheet(1, 1, 9, 25);
        x.sheet(1, 1, 10, 30);
        x.sheet(0, 2, 1, 2);
        C.due("groups", x.groups(), 3);
        // s w by n: 7 21 by 2 = 73, 28 75 by 3 = 700, 2; s s by n: 24, 261, 1; N 6, S 36, W 98
        C.due("many", x.many(), 1000L * (6 * 775 - 36 * 98) / (6 * 286 - 36 * 36));
        Check.tell(x, "");
        C.due("groups of STATES that are none now", x.groups(), 3);
        C.due("many of these", x.many(), 1000L * (6 * 775 - 36 * 98) / (6 * 286 - 36 * 36));
    }

    private static void strongestMonths() {
        MonthPush x = Check.with("law enter 6 leave 15;");
        x.sheet(0, 3, 10, 1);
        x.sheet(0, 3, 12, 1);
        x.sheet(0, 7, 20, 1);
        x.sheet(0, 7, 22, 1);
        x.sheet(0, 9, 100, 1);
        x.sheet(0, 9, 104, 1);
        C.due("strongest", x.strongest(), 9);
        MonthPush y = Check.with("law enter 6 leave 15;");
        y.sheet(0, 5, 10, 1);
        y.sheet(0, 4, 10, 1);
        y.sheet(0, 11, 11, 1);
        y.sheet(0, 10, 9, 1);
        C.due("the first of several", y.strongest(), 10);
        y.sheet(0, 12, 99, 1);
        C.due("the last MONTH", y.strongest(), 12);
        MonthPush z = Check.with("law enter 6 leave 15;");
        z.sheet(0, 5, 10, 1);
        z.sheet(0, 5, 20, 1);
        z.sheet(0, 5, 30, 1);
        C.due("none can be told", z.strongest(), -1);
    }

    private static void homesOfDrawn() {
        MonthPush x = Check.with("law enter 6 leave 15;sort share 1 gift 10 wish 99;leak 3 by 7;leak 4 by 2;");
        x.draw(11, 200);
        C.due("homes", x.homes(4 + 8) > 0 ? 1 : 0, 1);
        long n = x.month(3, 0);
        long m = x.month(4, 0);
        C.holds("both are there", n > 0 && m > 0);
        C.due("homes of MONTH 3 and 4", x.homes(12), 1000 * (7 * n + 2 * m) / (n + m));
        C.due("homes of the others", x.homes(4095 - 12), -1000 * (7 * n + 2 * m) / (n + m));
    }
}
