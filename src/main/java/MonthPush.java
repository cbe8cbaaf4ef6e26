import java.util.Arrays;

/**
 * Lands of school laws, SHEETS of people, and what a month of school is worth
 * when a month of birth that nobody chose pushes how long they sit there.
 *
 * All rows are made once and used again, so that a long run of calls makes
 * hardly any object: the only ones made later are the IMAGES, on first use.
 */
public final class MonthPush {
    public static final int NONE = -1;

    private static final int NO_SUCH = -2;
    private static final int REFUSED = -3;
    private static final int FAULTY = -4;
    private static final int EMPTY = -6;
    private static final int BEYOND = -7;
    private static final int UNLIKE = -8;
    private static final int NOTHING = -2000000000;

    /* Inside, what can't be told has a number of its own: a sum that can be told may come to NOTHING by chance. */
    private static final long UNTOLD = -9000000000000000000L;

    private static final int TAPE_MAX = 600;
    private static final int STATES_MAX = 6;
    private static final int SORTS_MAX = 8;
    private static final int MONTHS = 12;
    /* A PART more takes five bytes at least ("plus1"), so that a TAPE has room for fewer than this. */
    private static final int PARTS_MAX = 120;
    private static final int SHEETS_MAX = 200;
    private static final int SCHOOL_MAX = 300;
    private static final int GIFT_MAX = 999;
    private static final int WAGE_MAX = 9999;
    private static final int SEED_MAX = 2000000000;
    private static final int PUSH_MAX = 4094;
    private static final int K_MAX = 10;
    private static final int NUMBER_MAX = 99;
    private static final int HATS_MAX = 40;
    private static final int WORLDS_MAX = 20;
    private static final int LEAKED_MAX = 9999999;
    private static final int HUNDREDTHS_MAX = 1000000;
    private static final int STRONG_IN_WORLDS = 1000;
    private static final int FEWEST = 3;
    private static final int IMAGES = 3;
    private static final int SLOTS = 4;
    private static final int WIDTH_MAX = 3;
    private static final int ROW_MAX = 60;
    private static final long SUM_BOUND = 1000000000L;

    private static final int PLUS = 0;
    private static final int MINUS = 1;
    private static final int TIMES = 2;
    private static final int OVER = 3;

    /* A PART is one number: 0 .. 999 is a number told, above it stand the names. */
    private static final int SCHOOL_PART = 1000;
    private static final int GIFT_PART = 1001;
    private static final int MONTH_PART = 1002;
    private static final int OLD_PART = 1003;
    private static final int FORCED_PART = 1004;

    private final Tape tape = new Tape();
    private Land now = new Land();
    private Land draft = new Land();
    private final Sheets all = new Sheets();
    private final Sheets world = new Sheets();
    private final Draws draws = new Draws();
    private final Split split = new Split();
    private final Groups grouped = new Groups();
    private final Image[] images = new Image[IMAGES];
    private final Row[] slots = new Row[SLOTS];

    public MonthPush() {
        for (int i = 0; i < SLOTS; i++) {
            slots[i] = new Row();
        }
    }

    // ---------------------------------------------------------------- the TAPE and the LAND

    public int feed(int a, int b, int c, int d, int e) {
        if (tape.length + 20 > TAPE_MAX) {
            return NONE;
        }
        tape.addFour(a);
        tape.addFour(b);
        tape.addFour(c);
        tape.addFour(d);
        tape.addFour(e);
        return tape.length;
    }

    public int end(int n) {
        if (n < 0 || n > tape.length) {
            return NONE;
        }
        tape.length = n;
        return n;
    }

    public int land() {
        tape.readInto(draft);
        if (tape.fault != 0) {
            return FAULTY;
        }
        tape.length = 0;
        Land before = now;
        now = draft;
        draft = before;
        return now.lines;
    }

    public int fault(int what) {
        if (what == 0) {
            return tape.fault;
        }
        return what == 1 ? tape.place : NONE;
    }

    public int forced(int state, int month) {
        if (!now.hasState(state) || !isMonth(month)) {
            return NO_SUCH;
        }
        return now.forcedAt(state, month);
    }

    public int old(int state, int month) {
        if (!now.hasState(state) || !isMonth(month)) {
            return NO_SUCH;
        }
        return now.oldAt(state, month);
    }

    public int wage(int school, int gift, int month, int state) {
        if (!within(school, 0, SCHOOL_MAX) || !within(gift, 0, GIFT_MAX)) {
            return NO_SUCH;
        }
        if (!isMonth(month) || !now.hasState(state)) {
            return NO_SUCH;
        }
        return now.payFor(school, gift, month, state);
    }

    // ---------------------------------------------------------------- the SHEETS

    public int draw(int seed, int n) {
        if (!isSeed(seed) || !within(n, 1, SHEETS_MAX)) {
            return NO_SUCH;
        }
        if (!now.canBeDrawnFrom()) {
            return EMPTY;
        }
        drawInto(all, seed, n);
        return n;
    }

    private void drawInto(Sheets to, int seed, int n) {
        draws.from(seed);
        to.n = 0;
        for (int i = 0; i < n; i++) {
            drawOne(to);
        }
    }

    private void drawOne(Sheets to) {
        int state = draws.of(now.laws);
        int month = draws.of(MONTHS) + 1;
        int sort = now.sortAt(draws.of(now.shares));
        int wish = now.wish[sort] + draws.of(now.spread[sort] + 1);
        int luck = draws.of(2 * now.noise + 1) - now.noise;
        int gift = now.gift[sort] + now.leakOf(month);
        int school = Math.min(SCHOOL_MAX, Math.max(now.forcedAt(state, month), wish));
        int wage = cutToWage((long) now.payFor(school, gift, month, state) + luck);
        to.add(state, month, school, wage, gift, wish);
    }

    public int sheet(int state, int month, int school, int wage) {
        return tellSheet(state, month, school, wage);
    }

    /* Numbers out of a SLOT may be of 8 bytes: they are looked at before they are cut. */
    private int tellSheet(long state, long month, long school, long wage) {
        if (state < 0 || state >= now.laws || month < 1 || month > MONTHS) {
            return NO_SUCH;
        }
        if (school < 0 || school > SCHOOL_MAX || wage < 0 || wage > WAGE_MAX) {
            return NO_SUCH;
        }
        if (all.n >= SHEETS_MAX) {
            return REFUSED;
        }
        all.add((int) state, (int) month, (int) school, (int) wage, 0, (int) school);
        return all.n - 1;
    }

    public int told(int i, int what) {
        if (!all.has(i)) {
            return NONE;
        }
        switch (what) {
            case 0: return all.state[i];
            case 1: return all.month[i];
            case 2: return all.school[i];
            case 3: return all.wage[i];
            case 4: return all.gift[i];
            case 5: return all.wish[i];
            default: return NONE;
        }
    }

    public int would(int i, int month) {
        if (!isPlaced(all, i) || !isMonth(month)) {
            return NO_SUCH;
        }
        return Math.max(now.forcedAt(all.state[i], month), all.wish[i]);
    }

    public int worth(int i) {
        return isPlaced(all, i) ? gainOf(all, i) : NOTHING;
    }

    public int month(int month, int what) {
        if (!within(month, 0, MONTHS) || !within(what, 0, 3)) {
            return NONE;
        }
        int together = 0;
        for (int i = 0; i < all.n; i++) {
            if (month == 0 || all.month[i] == month) {
                together += monthPart(i, what);
            }
        }
        return together;
    }

    private int monthPart(int i, int what) {
        switch (what) {
            case 0: return 1;
            case 1: return all.school[i];
            case 2: return all.wage[i];
            default: return isHeld(all, i) ? 1 : 0;
        }
    }

    // ---------------------------------------------------------------- what a month is worth

    public long plain() {
        return toFace(plainOf());
    }

    private long plainOf() {
        split.clear();
        for (int i = 0; i < all.n; i++) {
            split.take(all, i, true);
        }
        long n = split.n;
        long upper = n * split.schoolWage - split.school * split.wage;
        long lower = n * split.schoolSchool - split.school * split.school;
        return thousandths(upper, lower);
    }

    public long by(int push) {
        return toFace(divided(all, push).byMoved());
    }

    public long many() {
        return toFace(manyOf());
    }

    private long manyOf() {
        grouped.takeAll(all);
        return grouped.slope();
    }

    public int groups() {
        grouped.takeAll(all);
        return grouped.filled();
    }

    public long moves(int push) {
        Split two = divided(all, push);
        return toFace(two.meanGap(two.school, two.otherSchool));
    }

    public long strong(int push) {
        return toFace(divided(all, push).strength());
    }

    public int strongest() {
        int first = NONE;
        long most = UNTOLD;
        for (int month = 1; month <= MONTHS; month++) {
            long strength = divided(all, 1 << (month - 1)).strength();
            if (strength > most) {
                most = strength;
                first = month;
            }
        }
        return first;
    }

    // ---------------------------------------------------------------- spans and hats

    public int span(int push, int k, int what) {
        if (!within(k, 1, K_MAX) || !within(what, 0, 3)) {
            return NOTHING;
        }
        Split two = divided(all, push);
        return two.hasSpan() ? two.trueSpan(k, what) : NOTHING;
    }

    public int usual(int push, int k, int what) {
        if (!within(k, 1, K_MAX) || !within(what, 0, 3)) {
            return NOTHING;
        }
        Split two = divided(all, push);
        return two.hasUsualSpan() ? two.usualSpan(k, what) : NOTHING;
    }

    public int kept(int push, int k, int number) {
        if (!within(k, 1, K_MAX) || !within(number, -NUMBER_MAX, NUMBER_MAX)) {
            return NO_SUCH;
        }
        Split two = divided(all, push);
        if (!two.hasSpan()) {
            return NO_SUCH;
        }
        return two.inTrueSpan(number, k) ? 1 : 0;
    }

    public int hats(int seed, int n, int k, int what) {
        if (!isSeed(seed) || !within(n, 1, HATS_MAX)) {
            return NO_SUCH;
        }
        if (!within(k, 1, K_MAX) || !within(what, 0, 2)) {
            return NO_SUCH;
        }
        long plainOne = plainOf();
        if (what == 1 && plainOne == UNTOLD) {
            return NOTHING;
        }
        draws.from(seed);
        int counted = 0;
        for (int hat = 0; hat < n; hat++) {
            drawHat();
            if (hatCounts(k, what, plainOne)) {
                counted++;
            }
        }
        return counted;
    }

    private void drawHat() {
        split.clear();
        for (int i = 0; i < all.n; i++) {
            split.take(all, i, draws.of(2) == 1);
        }
    }

    private boolean hatCounts(int k, int what, long plainOne) {
        long byHat = split.byMoved();
        if (byHat == UNTOLD) {
            return false;
        }
        switch (what) {
            case 0: return true;
            case 1: return Math.abs(byHat - plainOne) <= 1000;
            default: return split.hasUsualSpan() && !split.inUsualSpan(0, k);
        }
    }

    // ---------------------------------------------------------------- leaks and homes

    public long leak(int push) {
        Split two = divided(all, push);
        return toFace(two.meanGap(two.wage, two.otherWage));
    }

    public long leaked(int push, int v) {
        if (!within(v, -LEAKED_MAX, LEAKED_MAX)) {
            return NOTHING;
        }
        return toFace(divided(all, push).byMovedLess(v));
    }

    public long homes(int push) {
        Split two = divided(all, push);
        return toFace(two.meanGap(two.gift, two.otherGift));
    }

    // ---------------------------------------------------------------- whom it held

    public int whom(int what) {
        if (!within(what, 0, 1)) {
            return NONE;
        }
        int counted = 0;
        for (int i = 0; i < all.n; i++) {
            if (isHeld(all, i) && (what == 0 || gainOf(all, i) != 0)) {
                counted++;
            }
        }
        return counted;
    }

    public long truth(boolean held) {
        return toFace(truthOf(all, held));
    }

    private long truthOf(Sheets x, boolean held) {
        long together = 0;
        long counted = 0;
        for (int i = 0; i < x.n; i++) {
            if (held && !isHeld(x, i)) {
                continue;
            }
            if (!isPlaced(x, i)) {
                return UNTOLD;
            }
            together += gainOf(x, i);
            counted++;
        }
        return thousandths(together, counted);
    }

    public long leans(int what, int push) {
        return toFace(leanOf(what, push));
    }

    private long leanOf(int what, int push) {
        long told = estimateOf(what, push);
        long due = truthOf(all, true);
        return told == UNTOLD || due == UNTOLD ? UNTOLD : told - due;
    }

    private long estimateOf(int what, int push) {
        switch (what) {
            case 0: return plainOf();
            case 1: return divided(all, push).byMoved();
            case 2: return manyOf();
            default: return UNTOLD;
        }
    }

    public int least(int push) {
        int first = NONE;
        long fewest = 0;
        for (int what = 0; what <= 2; what++) {
            long lean = leanOf(what, push);
            if (lean != UNTOLD && (first == NONE || Math.abs(lean) < fewest)) {
                first = what;
                fewest = Math.abs(lean);
            }
        }
        return first;
    }

    public int beside(int i, int month) {
        if (!isPlaced(all, i) || !isMonth(month)) {
            return NOTHING;
        }
        int school = all.school[i];
        int gift = all.gift[i];
        int state = all.state[i];
        return now.payFor(school, gift, month, state) - now.payFor(school, gift, all.month[i], state);
    }

    // ---------------------------------------------------------------- how many, and worlds

    public int needs(int push, int hundredths) {
        if (!isPush(push) || !within(hundredths, 0, HUNDREDTHS_MAX)) {
            return NO_SUCH;
        }
        split.clear();
        for (int i = 0; i < all.n; i++) {
            split.take(all, i, isMoved(push, all.month[i]));
            // What can't be told is far below every number of hundredths.
            if (split.strength() >= hundredths) {
                return i + 1;
            }
        }
        return NONE;
    }

    public int worlds(int push, int seed, int n, int k, int what) {
        if (!isPush(push) || !isSeed(seed) || !within(n, 1, WORLDS_MAX)) {
            return NO_SUCH;
        }
        if (!within(k, 1, K_MAX) || !within(what, 0, 2)) {
            return NO_SUCH;
        }
        if (!now.canBeDrawnFrom() || all.n == 0) {
            return EMPTY;
        }
        int counted = 0;
        for (int i = 0; i < n; i++) {
            drawInto(world, seed + i, all.n);
            if (worldCounts(divided(world, push), k, what)) {
                counted++;
            }
        }
        return counted;
    }

    private boolean worldCounts(Split two, int k, int what) {
        if (what == 2) {
            return two.strength() >= STRONG_IN_WORLDS;
        }
        long due = truthOf(world, true);
        if (due == UNTOLD) {
            return false;
        }
        long whole = due / 1000;
        if (whole < -NUMBER_MAX || whole > NUMBER_MAX) {
            return false;
        }
        if (what == 0) {
            return two.hasSpan() && two.inTrueSpan(whole, k);
        }
        return two.hasUsualSpan() && two.inUsualSpan(whole, k);
    }

    public int only(int state) {
        if (!now.hasState(state)) {
            return NO_SUCH;
        }
        all.leave(state);
        return all.n;
    }

    // ---------------------------------------------------------------- SLOTS and SHEETS

    public int judge(int slot) {
        if (!isSlot(slot)) {
            return NO_SUCH;
        }
        Row from = slots[slot];
        if (!from.stands()) {
            return EMPTY;
        }
        int same = 0;
        while (same < from.n && same < all.n && from.numbers[same] == all.school[same]) {
            same++;
        }
        return same;
    }

    public int sheets(int slot) {
        if (!isSlot(slot)) {
            return NO_SUCH;
        }
        Row from = slots[slot];
        if (!from.stands()) {
            return EMPTY;
        }
        long[] x = from.numbers;
        int added = 0;
        for (int i = 0; i + 4 <= from.n; i += 4) {
            if (tellSheet(x[i], x[i + 1], x[i + 2], x[i + 3]) < 0) {
                break;
            }
            added++;
        }
        return added;
    }

    public int count(int what) {
        switch (what) {
            case 0: return now.laws;
            case 1: return now.sorts;
            case 2: return all.n;
            case 3: return now.lines;
            case 4: return now.parts;
            case 5: return now.noise;
            case 6: return tape.length;
            case 7: return slotsThatStand();
            default: return NONE;
        }
    }

    private int slotsThatStand() {
        int standing = 0;
        for (int i = 0; i < SLOTS; i++) {
            if (slots[i].stands()) {
                standing++;
            }
        }
        return standing;
    }

    // ---------------------------------------------------------------- IMAGES

    public int keep(int k) {
        if (!within(k, 0, IMAGES - 1)) {
            return NO_SUCH;
        }
        if (images[k] == null) {
            images[k] = new Image();
        }
        images[k].land.copyOf(now);
        images[k].sheets.copyOf(all);
        return 0;
    }

    public int back(int k) {
        if (!within(k, 0, IMAGES - 1)) {
            return NO_SUCH;
        }
        if (images[k] == null) {
            return EMPTY;
        }
        now.copyOf(images[k].land);
        all.copyOf(images[k].sheets);
        return 0;
    }

    // ---------------------------------------------------------------- SLOTS alone

    public int row(int slot, int width, int n) {
        if (!isSlot(slot) || !within(width, 0, WIDTH_MAX) || n > ROW_MAX) {
            return NO_SUCH;
        }
        if (n < 0) {
            return REFUSED;
        }
        slots[slot].make(width, n);
        return 0;
    }

    public int write(int slot, int i, long v) {
        if (!isSlot(slot)) {
            return NO_SUCH;
        }
        Row to = slots[slot];
        if (!to.stands()) {
            return EMPTY;
        }
        if (i < 0 || i >= to.n) {
            return BEYOND;
        }
        to.numbers[i] = cutToWidth(v, to.width);
        return 0;
    }

    public int paste(int slot, int i, int to, int k, int n) {
        if (!isSlot(slot) || !isSlot(to)) {
            return NO_SUCH;
        }
        Row source = slots[slot];
        Row target = slots[to];
        if (!source.stands() || !target.stands()) {
            return EMPTY;
        }
        if (source.width != target.width) {
            return UNLIKE;
        }
        if (!source.holds(i, n) || !target.holds(k, n)) {
            return BEYOND;
        }
        System.arraycopy(source.numbers, i, target.numbers, k, n);
        return 0;
    }

    // ---------------------------------------------------------------- small questions

    private static boolean within(int v, int low, int high) {
        return v >= low && v <= high;
    }

    private static boolean isMonth(int month) {
        return within(month, 1, MONTHS);
    }

    private static boolean isSeed(int seed) {
        return within(seed, 0, SEED_MAX);
    }

    private static boolean isPush(int push) {
        return within(push, 1, PUSH_MAX);
    }

    private static boolean isSlot(int slot) {
        return within(slot, 0, SLOTS - 1);
    }

    private static boolean isMoved(int push, int month) {
        return (push >> (month - 1) & 1) == 1;
    }

    private static int cutToWage(long v) {
        return (int) Math.max(0L, Math.min((long) WAGE_MAX, v));
    }

    private static long cutToWidth(long v, int width) {
        switch (width) {
            case 0: return (byte) v;
            case 1: return (short) v;
            case 2: return (int) v;
            default: return v;
        }
    }

    private static long thousandths(long upper, long lower) {
        return lower == 0 ? UNTOLD : 1000 * upper / lower;
    }

    private static long toFace(long v) {
        return v == UNTOLD ? NOTHING : v;
    }

    /* A SHEET that is there, with a STATE that the LAND has now. */
    private boolean isPlaced(Sheets x, int i) {
        return x.has(i) && now.hasState(x.state[i]);
    }

    private boolean isHeld(Sheets x, int i) {
        return isPlaced(x, i) && now.forcedAt(x.state[i], x.month[i]) > x.wish[i];
    }

    private int gainOf(Sheets x, int i) {
        int gift = x.gift[i];
        int month = x.month[i];
        int state = x.state[i];
        int longer = Math.min(SCHOOL_MAX, x.school[i] + 1);
        return now.payFor(longer, gift, month, state) - now.payFor(x.school[i], gift, month, state);
    }

    /* A number that is no PUSH leaves the split empty, so that it tells nothing. */
    private Split divided(Sheets x, int push) {
        split.clear();
        if (isPush(push)) {
            for (int i = 0; i < x.n; i++) {
                split.take(x, i, isMoved(push, x.month[i]));
            }
        }
        return split;
    }

    // ---------------------------------------------------------------- classes inside

    /** The laws, sorts, leaks, the SUM and the noise of one text. */
    private static final class Land {
        int lines;
        int laws;
        int sorts;
        int shares;
        int parts;
        int noise;
        boolean noiseTold;
        final int[] enter = new int[STATES_MAX];
        final int[] leave = new int[STATES_MAX];
        final int[] share = new int[SORTS_MAX];
        final int[] gift = new int[SORTS_MAX];
        final int[] wish = new int[SORTS_MAX];
        final int[] spread = new int[SORTS_MAX];
        final int[] leakBy = new int[MONTHS + 1];
        final int[] joint = new int[PARTS_MAX];
        final int[] part = new int[PARTS_MAX];

        Land() {
            Arrays.fill(leakBy, NONE);
        }

        void clear() {
            lines = 0;
            laws = 0;
            sorts = 0;
            shares = 0;
            parts = 0;
            noise = 0;
            noiseTold = false;
            Arrays.fill(leakBy, NONE);
        }

        void copyOf(Land x) {
            lines = x.lines;
            laws = x.laws;
            sorts = x.sorts;
            shares = x.shares;
            parts = x.parts;
            noise = x.noise;
            noiseTold = x.noiseTold;
            System.arraycopy(x.enter, 0, enter, 0, STATES_MAX);
            System.arraycopy(x.leave, 0, leave, 0, STATES_MAX);
            System.arraycopy(x.share, 0, share, 0, SORTS_MAX);
            System.arraycopy(x.gift, 0, gift, 0, SORTS_MAX);
            System.arraycopy(x.wish, 0, wish, 0, SORTS_MAX);
            System.arraycopy(x.spread, 0, spread, 0, SORTS_MAX);
            System.arraycopy(x.leakBy, 0, leakBy, 0, MONTHS + 1);
            System.arraycopy(x.joint, 0, joint, 0, PARTS_MAX);
            System.arraycopy(x.part, 0, part, 0, PARTS_MAX);
        }

        void addLaw(int enterYears, int leaveYears) {
            if (laws < STATES_MAX) {
                enter[laws] = enterYears;
                leave[laws] = leaveYears;
                laws++;
            }
        }

        void addSort(int shareOf, int giftOf, int wishOf, int spreadOf) {
            if (sorts < SORTS_MAX) {
                share[sorts] = shareOf;
                gift[sorts] = giftOf;
                wish[sorts] = wishOf;
                spread[sorts] = spreadOf;
                shares += shareOf;
                sorts++;
            }
        }

        void addPart(int how, int what) {
            if (parts < PARTS_MAX) {
                joint[parts] = how;
                part[parts] = what;
                parts++;
            }
        }

        boolean hasState(int state) {
            return state >= 0 && state < laws;
        }

        boolean hasLeak(int month) {
            return isMonth(month) && leakBy[month] != NONE;
        }

        int leakOf(int month) {
            return hasLeak(month) ? leakBy[month] : 0;
        }

        boolean canBeDrawnFrom() {
            return laws > 0 && sorts > 0;
        }

        int oldAt(int state, int month) {
            return 12 * enter[state] + 9 - month;
        }

        int forcedAt(int state, int month) {
            return 12 * leave[state] - oldAt(state, month);
        }

        int sortAt(int drawn) {
            int together = 0;
            for (int i = 0; i < sorts; i++) {
                together += share[i];
                if (together > drawn) {
                    return i;
                }
            }
            return 0;
        }

        int payFor(int school, int gifted, int month, int state) {
            long sum = 0;
            long term = 0;
            int sign = 1;
            for (int i = 0; i < parts; i++) {
                long x = partAt(part[i], school, gifted, month, state);
                if (joint[i] == TIMES) {
                    term = term * x;
                } else if (joint[i] == OVER) {
                    if (x == 0) {
                        return 0;
                    }
                    term = term / x;
                } else {
                    sum += sign * term;
                    term = x;
                    sign = joint[i] == MINUS ? -1 : 1;
                }
                if (isTooFar(term) || isTooFar(sum)) {
                    return 0;
                }
            }
            sum += sign * term;
            return isTooFar(sum) ? 0 : cutToWage(sum);
        }

        private int partAt(int what, int school, int gifted, int month, int state) {
            switch (what) {
                case SCHOOL_PART: return school;
                case GIFT_PART: return gifted;
                case MONTH_PART: return month;
                case OLD_PART: return oldAt(state, month);
                case FORCED_PART: return forcedAt(state, month);
                default: return what;
            }
        }

        private static boolean isTooFar(long v) {
            return v > SUM_BOUND || v < -SUM_BOUND;
        }
    }

    /** The TAPE: bytes that come, and that are read as a LAND up to the first FAULT. */
    private static final class Tape {
        private static final int AT_END = 0;
        private static final int WORD = 1;
        private static final int NUMBER = 2;
        private static final int SEMICOLON = 3;
        private static final int NO_TOKEN = 4;
        /* Above every bound of the document, so that a long number can stop growing here. */
        private static final int VALUE_MAX = 100000;

        final byte[] text = new byte[TAPE_MAX];
        int length;
        int fault;
        int place = NONE;
        private int next;
        private int kind;
        private int start;
        private int value;

        void addFour(int v) {
            for (int shift = 24; shift >= 0 && length < TAPE_MAX; shift -= 8) {
                text[length] = (byte) (v >> shift);
                length++;
            }
        }

        /* At a FAULT the LAND is left half told: its reader throws it away. */
        void readInto(Land to) {
            fault = 0;
            place = NONE;
            next = 0;
            to.clear();
            step();
            for (int i = 0; i < TAPE_MAX && kind != AT_END && fault == 0; i++) {
                readLine(to);
                to.lines++;
            }
        }

        private void readLine(Land to) {
            if (isWord("law")) {
                readLaw(to);
            } else if (isWord("sort")) {
                readSort(to);
            } else if (isWord("leak")) {
                readLeak(to);
            } else if (isWord("wage")) {
                readSum(to);
            } else if (isWord("noise")) {
                readNoise(to);
            } else {
                refuse(1);
            }
        }

        private void readLaw(Land to) {
            if (to.laws >= STATES_MAX) {
                refuse(3);
            }
            passWord("law");
            passWord("enter");
            int enter = passNumber(4, 9);
            passWord("leave");
            int leave = passNumber(10, 20);
            passSemicolon();
            to.addLaw(enter, leave);
        }

        private void readSort(Land to) {
            if (to.sorts >= SORTS_MAX) {
                refuse(3);
            }
            passWord("sort");
            passWord("share");
            int share = passNumber(1, 99);
            passWord("gift");
            int gift = passNumber(0, 99);
            passWord("wish");
            int wish = passNumber(0, 240);
            int spread = 0;
            if (isWord("spread")) {
                passWord("spread");
                spread = passNumber(0, 60);
            }
            passSemicolon();
            to.addSort(share, gift, wish, spread);
        }

        private void readLeak(Land to) {
            passWord("leak");
            if (kind == NUMBER && to.hasLeak(value)) {
                refuse(2);
            }
            int month = passNumber(1, MONTHS);
            passWord("by");
            to.leakBy[month] = passNumber(0, 99);
            passSemicolon();
        }

        private void readSum(Land to) {
            if (to.parts > 0) {
                refuse(2);
            }
            passWord("wage");
            int how = PLUS;
            for (int i = 0; i < TAPE_MAX && how != NONE && fault == 0; i++) {
                to.addPart(how, passPart());
                how = passJoint();
            }
            passSemicolon();
        }

        private void readNoise(Land to) {
            if (to.noiseTold) {
                refuse(2);
            }
            passWord("noise");
            to.noise = passNumber(0, 999);
            to.noiseTold = true;
            passSemicolon();
        }

        private int passPart() {
            int what = partNamed();
            if (what == NONE) {
                return passNumber(0, 999);
            }
            step();
            return what;
        }

        private int partNamed() {
            if (isWord("school")) {
                return SCHOOL_PART;
            }
            if (isWord("gift")) {
                return GIFT_PART;
            }
            if (isWord("month")) {
                return MONTH_PART;
            }
            if (isWord("old")) {
                return OLD_PART;
            }
            return isWord("forced") ? FORCED_PART : NONE;
        }

        private int passJoint() {
            int how = jointNamed();
            if (how != NONE) {
                step();
            }
            return how;
        }

        private int jointNamed() {
            if (isWord("plus")) {
                return PLUS;
            }
            if (isWord("minus")) {
                return MINUS;
            }
            if (isWord("times")) {
                return TIMES;
            }
            return isWord("over") ? OVER : NONE;
        }

        private void passWord(String word) {
            if (!isWord(word)) {
                refuse(1);
            }
            if (fault == 0) {
                step();
            }
        }

        private void passSemicolon() {
            if (kind != SEMICOLON) {
                refuse(1);
            }
            if (fault == 0) {
                step();
            }
        }

        /* Its answer is within the bounds even at a FAULT, so that it can be an index. */
        private int passNumber(int low, int high) {
            if (kind != NUMBER) {
                refuse(1);
            } else if (value < low || value > high) {
                refuse(2);
            }
            if (fault != 0) {
                return low;
            }
            int passed = value;
            step();
            return passed;
        }

        /* The text is read from the left, so that the first FAULT met is the first by its place. */
        private void refuse(int why) {
            if (fault == 0) {
                fault = why;
                place = start;
            }
        }

        private boolean isWord(String word) {
            if (kind != WORD || next - start != word.length()) {
                return false;
            }
            for (int i = 0; i < word.length(); i++) {
                if (text[start + i] != word.charAt(i)) {
                    return false;
                }
            }
            return true;
        }

        private void step() {
            while (next < length && (text[next] == 32 || text[next] == 10)) {
                next++;
            }
            start = next;
            value = 0;
            if (next >= length) {
                kind = AT_END;
            } else if (isLetter(text[next])) {
                kind = WORD;
                while (next < length && isLetter(text[next])) {
                    next++;
                }
            } else if (isDigit(text[next])) {
                kind = NUMBER;
                while (next < length && isDigit(text[next])) {
                    value = Math.min(VALUE_MAX, 10 * value + text[next] - '0');
                    next++;
                }
            } else {
                kind = text[next] == ';' ? SEMICOLON : NO_TOKEN;
                next++;
            }
        }

        private static boolean isLetter(byte c) {
            return c >= 'a' && c <= 'z';
        }

        private static boolean isDigit(byte c) {
            return c >= '0' && c <= '9';
        }
    }

    /** People, each as one number in every row. */
    private static final class Sheets {
        int n;
        final int[] state = new int[SHEETS_MAX];
        final int[] month = new int[SHEETS_MAX];
        final int[] school = new int[SHEETS_MAX];
        final int[] wage = new int[SHEETS_MAX];
        final int[] gift = new int[SHEETS_MAX];
        final int[] wish = new int[SHEETS_MAX];

        boolean has(int i) {
            return i >= 0 && i < n;
        }

        void add(int itsState, int itsMonth, int itsSchool, int itsWage, int itsGift, int itsWish) {
            if (n < SHEETS_MAX) {
                state[n] = itsState;
                month[n] = itsMonth;
                school[n] = itsSchool;
                wage[n] = itsWage;
                gift[n] = itsGift;
                wish[n] = itsWish;
                n++;
            }
        }

        void leave(int itsState) {
            int before = n;
            n = 0;
            for (int i = 0; i < before; i++) {
                if (state[i] == itsState) {
                    add(state[i], month[i], school[i], wage[i], gift[i], wish[i]);
                }
            }
        }

        void copyOf(Sheets x) {
            n = x.n;
            System.arraycopy(x.state, 0, state, 0, n);
            System.arraycopy(x.month, 0, month, 0, n);
            System.arraycopy(x.school, 0, school, 0, n);
            System.arraycopy(x.wage, 0, wage, 0, n);
            System.arraycopy(x.gift, 0, gift, 0, n);
            System.arraycopy(x.wish, 0, wish, 0, n);
        }
    }

    /** What is drawn from a seed, one after another. */
    private static final class Draws {
        long x;

        void from(int seed) {
            x = seed;
        }

        int of(int n) {
            x = (1103515245L * x + 12345L) & 2147483647L;
            return n < 1 ? 0 : (int) (x / 65536L % n);
        }
    }

    /**
     * SHEETS in two halves, those MOVED and the others, as sums alone.
     *
     * What is left of WAGE by a number b has sums that follow from these, so
     * that no span has to look at the SHEETS again for each b.
     */
    private static final class Split {
        long n;
        long school;
        long wage;
        long gift;
        long others;
        long otherSchool;
        long otherWage;
        long otherGift;
        long schoolSchool;
        long schoolWage;
        long wageWage;

        void clear() {
            n = 0;
            school = 0;
            wage = 0;
            gift = 0;
            others = 0;
            otherSchool = 0;
            otherWage = 0;
            otherGift = 0;
            schoolSchool = 0;
            schoolWage = 0;
            wageWage = 0;
        }

        void take(Sheets x, int i, boolean moved) {
            long s = x.school[i];
            long w = x.wage[i];
            schoolSchool += s * s;
            schoolWage += s * w;
            wageWage += w * w;
            if (moved) {
                n++;
                school += s;
                wage += w;
                gift += x.gift[i];
            } else {
                others++;
                otherSchool += s;
                otherWage += w;
                otherGift += x.gift[i];
            }
        }

        private boolean hasBoth() {
            return n > 0 && others > 0;
        }

        boolean hasSpan() {
            return hasBoth() && n + others >= FEWEST;
        }

        boolean hasUsualSpan() {
            long own = byMoved();
            if (own == UNTOLD || !hasSpan()) {
                return false;
            }
            return own / 1000 >= -NUMBER_MAX && own / 1000 <= NUMBER_MAX;
        }

        private long gapOf(long ofMoved, long ofOthers) {
            return ofMoved * others - ofOthers * n;
        }

        long meanGap(long ofMoved, long ofOthers) {
            return hasBoth() ? thousandths(gapOf(ofMoved, ofOthers), n * others) : UNTOLD;
        }

        long byMoved() {
            return byMovedLess(0);
        }

        long byMovedLess(long leakedEach) {
            long lower = gapOf(school, otherSchool);
            if (!hasBoth() || lower == 0) {
                return UNTOLD;
            }
            return (1000 * gapOf(wage, otherWage) - leakedEach * n * others) / lower;
        }

        long strength() {
            if (!hasSpan()) {
                return UNTOLD;
            }
            long gap = gapOf(school, otherSchool);
            long within = withinOf(school, otherSchool, schoolSchool);
            if (within == 0) {
                return gap == 0 ? 0 : 999999999;
            }
            return 100 * (n + others - 2) * gap * gap / ((n + others) * within);
        }

        private long withinOf(long ofMoved, long ofOthers, long squares) {
            return n * others * squares - ofMoved * ofMoved * others - ofOthers * ofOthers * n;
        }

        private long leftGap(long b) {
            return gapOf(wage - b * school, otherWage - b * otherSchool);
        }

        private long leftWithin(long b) {
            long squares = wageWage - 2 * b * schoolWage + b * b * schoolSchool;
            return withinOf(wage - b * school, otherWage - b * otherSchool, squares);
        }

        private boolean keeps(long b, long within, int k) {
            long gap = leftGap(b);
            long free = n + others - 2;
            return free > 0 && gap * gap <= k * (n + others) * within / free;
        }

        boolean inTrueSpan(long b, int k) {
            return keeps(b, leftWithin(b), k);
        }

        boolean inUsualSpan(long b, int k) {
            return keeps(b, leftWithin(byMoved() / 1000), k);
        }

        int trueSpan(int k, int what) {
            return spanBy(k, what, false);
        }

        int usualSpan(int k, int what) {
            return spanBy(k, what, true);
        }

        private int spanBy(int k, int what, boolean usualOne) {
            int counted = 0;
            int first = NOTHING;
            int last = NOTHING;
            for (int b = -NUMBER_MAX; b <= NUMBER_MAX; b++) {
                if (usualOne ? inUsualSpan(b, k) : inTrueSpan(b, k)) {
                    first = counted == 0 ? b : first;
                    last = b;
                    counted++;
                }
            }
            switch (what) {
                case 0: return counted;
                case 1: return first;
                case 2: return last;
                default: return counted > 0 && last - first + 1 == counted ? 1 : 0;
            }
        }
    }

    /** SHEETS of one STATE and MONTH together, as sums alone. */
    private static final class Groups {
        private static final int GROUPS_MAX = STATES_MAX * MONTHS;

        final long[] size = new long[GROUPS_MAX];
        final long[] school = new long[GROUPS_MAX];
        final long[] wage = new long[GROUPS_MAX];

        void takeAll(Sheets x) {
            Arrays.fill(size, 0L);
            Arrays.fill(school, 0L);
            Arrays.fill(wage, 0L);
            for (int i = 0; i < x.n; i++) {
                int g = x.state[i] * MONTHS + x.month[i] - 1;
                if (g >= 0 && g < GROUPS_MAX) {
                    size[g]++;
                    school[g] += x.school[i];
                    wage[g] += x.wage[i];
                }
            }
        }

        int filled() {
            int counted = 0;
            for (int g = 0; g < GROUPS_MAX; g++) {
                if (size[g] > 0) {
                    counted++;
                }
            }
            return counted;
        }

        long slope() {
            long n = 0;
            long schools = 0;
            long wages = 0;
            long schoolWage = 0;
            long schoolSchool = 0;
            for (int g = 0; g < GROUPS_MAX; g++) {
                if (size[g] > 0) {
                    n += size[g];
                    schools += school[g];
                    wages += wage[g];
                    schoolWage += school[g] * wage[g] / size[g];
                    schoolSchool += school[g] * school[g] / size[g];
                }
            }
            return thousandths(n * schoolWage - schools * wages, n * schoolSchool - schools * schools);
        }
    }

    /** A LAND and SHEETS that are gone back to. */
    private static final class Image {
        final Land land = new Land();
        final Sheets sheets = new Sheets();
    }

    /** What a SLOT has: numbers of one WIDTH, or nothing. */
    private static final class Row {
        int width = NONE;
        int n;
        final long[] numbers = new long[ROW_MAX];

        boolean stands() {
            return width != NONE;
        }

        void make(int itsWidth, int itsLength) {
            if (itsLength >= 0 && itsLength <= ROW_MAX) {
                width = itsWidth;
                n = itsLength;
                Arrays.fill(numbers, 0L);
            }
        }

        boolean holds(int from, int many) {
            return from >= 0 && many >= 0 && (long) from + many <= n;
        }
    }
}
