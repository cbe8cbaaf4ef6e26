import java.util.Random;

/** Random runs of calls, each answer beside the Oracle's. The seeds are told, so that every run is the same. */
public final class OracleTest {
    private static final int RUNS = 1500;
    private static final int CALLS = 250;
    private static final String[] WORDS = {"law", "enter", "leave", "sort", "share", "gift", "wish", "spread", "leak", "by", "wage", "noise",
        "plus", "minus", "times", "over", "school", "month", "old", "forced", ";", ";", "0", "1", "7", "12", "13", "99", "100", "999", "1000", "x", "-", "\t"};
    private static final String[] PARTS = {"school", "gift", "month", "old", "forced"};
    private static final String[] JOINTS = {"plus", "plus", "minus", "times", "times", "over"};

    private final Check c;
    private final Random r;
    private final MonthPush x = new MonthPush();
    private final Oracle y = new Oracle();
    private final int run;

    private OracleTest(Check c, int run) {
        this.c = c;
        this.run = run;
        this.r = new Random(run);
    }

    public static void main(String[] args) {
        Check c = new Check("OracleTest");
        for (int run = 0; run < RUNS; run++) {
            new OracleTest(c, run).play();
        }
        c.close();
    }

    private void play() {
        int calls = 0;
        while (calls < CALLS) {
            if (r.nextInt(25) == 0) {
                calls += tellText(r.nextInt(4) == 0 ? broken(validText()) : validText());
            } else if (r.nextInt(3) == 0) {
                drawOrTell();
                calls++;
            } else {
                ask(r.nextInt(40));
                calls++;
            }
        }
    }

    private int tellText(String text) {
        String cut = text.length() > 600 ? text.substring(0, 600) : text;
        int calls = 2;
        if (r.nextInt(4) != 0) {
            due("end 0", x.end(0), y.end(0));
            calls++;
        }
        for (int i = 0; i < cut.length(); i += 20) {
            int[] v = new int[5];
            for (int j = 0; j < 20; j++) {
                v[j / 4] = v[j / 4] << 8 | (i + j < cut.length() ? cut.charAt(i + j) : r.nextInt(256));
            }
            due("feed", x.feed(v[0], v[1], v[2], v[3], v[4]), y.feed(v));
            calls++;
        }
        int n = r.nextInt(30) == 0 ? r.nextInt(700) - 50 : cut.length();
        due("end " + n, x.end(n), y.end(n));
        due("land " + cut, x.land(), y.land());
        due("fault " + cut, x.fault(0), y.fault(0));
        due("place " + cut, x.fault(1), y.fault(1));
        return calls + 2;
    }

    private String validText() {
        StringBuilder b = new StringBuilder();
        int laws = r.nextInt(8) == 0 ? 0 : 1 + r.nextInt(r.nextInt(9) == 0 ? 7 : 3);
        for (int i = 0; i < laws; i++) {
            b.append("law enter ").append(4 + r.nextInt(6)).append(" leave ").append(10 + r.nextInt(11)).append(blank()).append(";");
        }
        int sorts = r.nextInt(8) == 0 ? 0 : 1 + r.nextInt(r.nextInt(9) == 0 ? 9 : 3);
        for (int i = 0; i < sorts; i++) {
            b.append("sort share").append(1 + r.nextInt(99)).append("gift").append(r.nextInt(100)).append("wish").append(r.nextInt(r.nextBoolean() ? 241 : 120));
            b.append(r.nextBoolean() ? "spread" + r.nextInt(61) : "").append(blank()).append(";").append(blank());
        }
        for (int month = 1; month <= 12; month++) {
            b.append(r.nextInt(5) == 0 ? "leak " + month + " by " + r.nextInt(100) + ";" : "");
        }
        if (r.nextInt(8) != 0) {
            b.append("wage ").append(sum()).append(";");
        }
        b.append(r.nextInt(2) == 0 ? "noise " + r.nextInt(r.nextBoolean() ? 20 : 1000) + "\n;" : "");
        return b.toString();
    }

    private String blank() {
        return r.nextInt(4) == 0 ? r.nextBoolean() ? " " : "\n" : "";
    }

    private String sum() {
        if (r.nextInt(3) == 0) {
            return "school times " + r.nextInt(30) + " plus gift times " + r.nextInt(9) + (r.nextBoolean() ? " plus old" : " minus month times 3");
        }
        StringBuilder b = new StringBuilder(part());
        int more = r.nextInt(r.nextInt(6) == 0 ? 14 : 5);
        for (int i = 0; i < more; i++) {
            b.append(' ').append(JOINTS[r.nextInt(JOINTS.length)]).append(' ').append(part());
        }
        return b.toString();
    }

    private String part() {
        return r.nextInt(3) == 0 ? "" + r.nextInt(r.nextInt(3) == 0 ? 1000 : 12) : PARTS[r.nextInt(PARTS.length)];
    }

    private String broken(String text) {
        if (text.isEmpty()) {
            return WORDS[r.nextInt(WORDS.length)];
        }
        int at = r.nextInt(text.length());
        switch (r.nextInt(5)) {
            case 0: return text.substring(0, at);
            case 1: return text.substring(0, at) + " " + WORDS[r.nextInt(WORDS.length)] + " " + text.substring(at);
            case 2: return text.substring(0, at) + (char) r.nextInt(256) + text.substring(at);
            case 3: return text + validText();
            default: return text.substring(0, at) + text.substring(at + 1);
        }
    }

    /** Mostly a number of the bounds, now and then one beyond them. */
    private int num(int low, int high) {
        switch (r.nextInt(40)) {
            case 0: return low - 1;
            case 1: return high + 1;
            case 2: return low;
            case 3: return high;
            case 4: return r.nextInt();
            default: return low + r.nextInt(high - low + 1);
        }
    }

    private int push() {
        return r.nextInt(3) == 0 ? 1 << r.nextInt(12) : num(1, 4094);
    }

    private int seed() {
        return num(0, 2000000000);
    }

    private int index() {
        return num(0, Math.max(0, y.count(2) - 1));
    }

    private void drawOrTell() {
        if (r.nextInt(4) == 0) {
            int seed = seed();
            int n = r.nextBoolean() ? num(1, 12) : num(1, 200);
            due("draw", x.draw(seed, n), y.draw(seed, n));
            return;
        }
        int state = num(0, Math.max(0, y.count(0) - 1));
        int month = r.nextBoolean() ? num(1, 12) : num(1, 2);
        int school = r.nextBoolean() ? num(0, 300) : num(100, 103);
        int wage = r.nextBoolean() ? num(0, 9999) : Math.max(0, Math.min(9999, school)) * 3 + r.nextInt(9);
        due("sheet", x.sheet(state, month, school, wage), y.sheet(state, month, school, wage));
    }

    private void due(String call, long got, long want) {
        if (got != want) {
            c.due("run " + run + ": " + call, got, want);
        } else {
            c.due(call, got, want);
        }
    }

    private void ask(int which) {
        if (which < 20) {
            askOfSums(which);
        } else {
            askOfTheRest(which);
        }
    }

    private void askOfSums(int which) {
        int push = push();
        int k = num(1, 10);
        int what = num(0, 3);
        int v = num(-9999999, 9999999);
        int number = num(-99, 99);
        int seed = seed();
        int n = num(1, 40);
        boolean held = r.nextBoolean();
        switch (which) {
            case 0: due("plain", x.plain(), y.plain()); break;
            case 1: due("by " + push, x.by(push), y.by(push)); break;
            case 2: due("many", x.many(), y.many()); break;
            case 3: due("groups", x.groups(), y.groups()); break;
            case 4: due("moves " + push, x.moves(push), y.moves(push)); break;
            case 5: due("strong " + push, x.strong(push), y.strong(push)); break;
            case 6: due("strongest", x.strongest(), y.strongest()); break;
            case 7: due("span " + push + " " + k + " " + what, x.span(push, k, what), y.span(push, k, what)); break;
            case 8: due("usual " + push + " " + k + " " + what, x.usual(push, k, what), y.usual(push, k, what)); break;
            case 9: due("kept " + push + " " + k + " " + number, x.kept(push, k, number), y.kept(push, k, number)); break;
            case 10: if (r.nextInt(4) == 0) { due("hats " + seed + " " + n + " " + k + " " + what, x.hats(seed, n, k, what), y.hats(seed, n, k, what)); } break;
            case 11: due("leak " + push, x.leak(push), y.leak(push)); break;
            case 12: due("leaked " + push + " " + v, x.leaked(push, v), y.leaked(push, v)); break;
            case 13: due("homes " + push, x.homes(push), y.homes(push)); break;
            case 14: due("whom " + what, x.whom(what), y.whom(what)); break;
            case 15: due("truth " + held, x.truth(held), y.truth(held)); break;
            case 16: due("leans " + what + " " + push, x.leans(what, push), y.leans(what, push)); break;
            case 17: due("least " + push, x.least(push), y.least(push)); break;
            case 18: askNeeds(push); break;
            default: askWorlds(push, seed, k, what); break;
        }
    }

    private void askNeeds(int push) {
        int hundredths = r.nextBoolean() ? num(0, 1000000) : num(0, 2000);
        due("needs " + push + " " + hundredths, x.needs(push, hundredths), y.needs(push, hundredths));
    }

    private void askWorlds(int push, int seed, int k, int what) {
        int n = r.nextInt(4) == 0 ? num(1, 20) : num(1, 3);
        if (r.nextInt(4) == 0) {
            due("worlds " + push + " " + seed + " " + n + " " + k + " " + what, x.worlds(push, seed, n, k, what), y.worlds(push, seed, n, k, what));
        }
    }

    private void askOfTheRest(int which) {
        int i = index();
        int month = num(1, 12);
        int state = num(0, 2);
        int slot = num(0, 3);
        int a = num(0, 60);
        switch (which) {
            case 20: case 21: due("told " + i, x.told(i, month % 7), y.told(i, month % 7)); break;
            case 22: due("would", x.would(i, month), y.would(i, month)); break;
            case 23: due("worth", x.worth(i), y.worth(i)); break;
            case 24: askMonth(); break;
            case 25: due("beside", x.beside(i, month), y.beside(i, month)); break;
            case 26: if (r.nextInt(9) == 0) { due("only", x.only(state), y.only(state)); } break;
            case 27: due("forced", x.forced(state, month), y.forced(state, month)); break;
            case 28: due("old", x.old(state, month), y.old(state, month)); break;
            case 29: askWage(month, state); break;
            case 30: due("judge", x.judge(slot), y.judge(slot)); break;
            case 31: due("sheets", x.sheets(slot), y.sheets(slot)); break;
            case 32: due("keep", x.keep(slot), y.keep(slot)); break;
            case 33: if (r.nextInt(3) == 0) { due("back", x.back(slot), y.back(slot)); } break;
            case 34: case 35: askRow(slot, a); break;
            case 36: askPaste(slot); break;
            case 37: writeSheets(slot); break;
            case 38: writeSchools(slot); break;
            default: due("count", x.count(a % 9), y.count(a % 9)); break;
        }
    }

    private void askMonth() {
        int month = num(0, 12);
        int what = num(0, 3);
        due("month", x.month(month, what), y.month(month, what));
    }

    private void askWage(int month, int state) {
        int school = num(0, 300);
        int gift = num(0, 999);
        due("wage", x.wage(school, gift, month, state), y.wage(school, gift, month, state));
    }

    private void askRow(int slot, int n) {
        int width = num(0, 3);
        due("row", x.row(slot, width, n), y.row(slot, width, n));
        int i = num(0, 59);
        long v = r.nextLong() >> r.nextInt(64);
        due("write", x.write(slot, i, v), y.write(slot, i, v));
    }

    private void askPaste(int slot) {
        int i = num(0, 20);
        int to = num(0, 3);
        int k = num(0, 20);
        int n = num(0, 20);
        due("paste", x.paste(slot, i, to, k, n), y.paste(slot, i, to, k, n));
    }

    private void writeSheets(int slot) {
        for (int i = 0; i < 3; i++) {
            long[] v = {num(0, 1), num(1, 12), num(0, 300), num(0, 9999)};
            for (int j = 0; j < 4; j++) {
                due("write", x.write(slot, 4 * i + j, v[j]), y.write(slot, 4 * i + j, v[j]));
            }
        }
    }

    private void writeSchools(int slot) {
        for (int i = 0; i < 5; i++) {
            int v = y.told(i, 2);
            due("write", x.write(slot, i, v), y.write(slot, i, v));
        }
    }
}
