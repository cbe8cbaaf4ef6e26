import java.math.BigInteger;
import java.util.ArrayList;
import java.util.List;
import java.util.Map;
import java.util.TreeMap;
import java.util.function.IntPredicate;
import java.util.regex.Matcher;
import java.util.regex.Pattern;

/**
 * The document again, sentence by sentence and without any care for speed or
 * room: lists of people, BigInteger, every sum taken anew from the SHEETS.
 */
final class Oracle {
    static final long NOTHING = -2000000000L;

    record Law(int enter, int leave) { }

    record Sort(int share, int gift, int wish, int spread) { }

    record Person(int state, int month, int school, int wage, int gift, int wish) { }

    /** A text of laws. */
    static final class Land {
        int lines = 0;
        final List<Law> laws = new ArrayList<>();
        final List<Sort> sorts = new ArrayList<>();
        final Map<Integer, Integer> leaks = new TreeMap<>();
        List<String> sum = null;
        Integer noise = null;
    }

    /** A FAULT, thrown by the parser. */
    static final class Fault extends Exception {
        private static final long serialVersionUID = 1L;
        final int kind;
        final int place;

        Fault(int kind, int place) {
            this.kind = kind;
            this.place = place;
        }
    }

    /** TOKENS with their places. */
    static final class Tokens {
        final List<String> word = new ArrayList<>();
        final List<Integer> place = new ArrayList<>();
        int at = 0;

        Tokens(String text) {
            Matcher m = Pattern.compile("[a-z]+|[0-9]+|[^ \n]").matcher(text);
            while (m.find()) {
                word.add(m.group());
                place.add(m.start());
            }
            word.add("");
            place.add(text.length());
        }

        String now() {
            return word.get(at);
        }

        Fault fault(int kind) {
            return new Fault(kind, place.get(at));
        }

        void pass(String due) throws Fault {
            if (!now().equals(due)) {
                throw fault(1);
            }
            at++;
        }

        int number(int low, int high) throws Fault {
            if (!now().matches("[0-9]+")) {
                throw fault(1);
            }
            BigInteger v = new BigInteger(now());
            if (v.compareTo(BigInteger.valueOf(low)) < 0 || v.compareTo(BigInteger.valueOf(high)) > 0) {
                throw fault(2);
            }
            at++;
            return v.intValue();
        }

        int number(String ahead, int low, int high) throws Fault {
            pass(ahead);
            return number(low, high);
        }
    }

    private String tape = "";
    private int faultKind = 0;
    private int faultPlace = -1;
    private Land land = new Land();
    private List<Person> all = new ArrayList<>();
    private final Land[] keptLand = new Land[3];
    private final List<List<Person>> keptSheets = new ArrayList<>(List.of(List.of(), List.of(), List.of()));
    private final long[][] rows = new long[4][];
    private final int[] widths = new int[4];
    private long x;

    // ------------------------------------------------------------ the text

    int feed(int... numbers) {
        if (tape.length() + 20 > 600) {
            return -1;
        }
        StringBuilder b = new StringBuilder(tape);
        for (int v : numbers) {
            b.append((char) (v >>> 24)).append((char) (v >>> 16 & 255)).append((char) (v >>> 8 & 255)).append((char) (v & 255));
        }
        tape = b.toString();
        return tape.length();
    }

    int end(int n) {
        if (n < 0 || n > tape.length()) {
            return -1;
        }
        tape = tape.substring(0, n);
        return n;
    }

    int land() {
        try {
            land = parse(new Tokens(tape));
            tape = "";
            faultKind = 0;
            faultPlace = -1;
            return land.lines;
        } catch (Fault f) {
            faultKind = f.kind;
            faultPlace = f.place;
            return -4;
        }
    }

    private static Land parse(Tokens t) throws Fault {
        Land to = new Land();
        while (!t.now().isEmpty()) {
            switch (t.now()) {
                case "law":
                    if (to.laws.size() == 6) {
                        throw t.fault(3);
                    }
                    t.pass("law");
                    int enter = t.number("enter", 4, 9);
                    to.laws.add(new Law(enter, t.number("leave", 10, 20)));
                    break;
                case "sort":
                    if (to.sorts.size() == 8) {
                        throw t.fault(3);
                    }
                    t.pass("sort");
                    int share = t.number("share", 1, 99);
                    int gift = t.number("gift", 0, 99);
                    int wish = t.number("wish", 0, 240);
                    to.sorts.add(new Sort(share, gift, wish, t.now().equals("spread") ? t.number("spread", 0, 60) : 0));
                    break;
                case "leak":
                    t.pass("leak");
                    Fault here = t.fault(2);
                    int month = t.number(1, 12);
                    if (to.leaks.containsKey(month)) {
                        throw here;
                    }
                    to.leaks.put(month, t.number("by", 0, 99));
                    break;
                case "wage":
                    if (to.sum != null) {
                        throw t.fault(2);
                    }
                    to.sum = parseSum(t);
                    break;
                case "noise":
                    if (to.noise != null) {
                        throw t.fault(2);
                    }
                    to.noise = t.number("noise", 0, 999);
                    break;
                default:
                    throw t.fault(1);
            }
            t.pass(";");
            to.lines++;
        }
        return to;
    }

    private static List<String> parseSum(Tokens t) throws Fault {
        List<String> sum = new ArrayList<>();
        t.pass("wage");
        while (true) {
            if (t.now().matches("school|gift|month|old|forced")) {
                sum.add(t.now());
                t.at++;
            } else {
                sum.add("" + t.number(0, 999));
            }
            if (!t.now().matches("plus|minus|times|over")) {
                return sum;
            }
            sum.add(t.now());
            t.at++;
        }
    }

    int fault(int what) {
        return what == 0 ? faultKind : what == 1 ? faultPlace : -1;
    }

    // ------------------------------------------------------------ months and wages

    private boolean isState(int state) {
        return state >= 0 && state < land.laws.size();
    }

    private static boolean isMonth(int month) {
        return month >= 1 && month <= 12;
    }

    private int oldOf(int state, int month) {
        return 12 * land.laws.get(state).enter() + 9 - month;
    }

    private int forcedOf(int state, int month) {
        return 12 * land.laws.get(state).leave() - oldOf(state, month);
    }

    int forced(int state, int month) {
        return isState(state) && isMonth(month) ? forcedOf(state, month) : -2;
    }

    int old(int state, int month) {
        return isState(state) && isMonth(month) ? oldOf(state, month) : -2;
    }

    private BigInteger part(String p, Person who) {
        switch (p) {
            case "school": return big(who.school());
            case "gift": return big(who.gift());
            case "month": return big(who.month());
            case "old": return big(oldOf(who.state(), who.month()));
            case "forced": return big(forcedOf(who.state(), who.month()));
            default: return new BigInteger(p);
        }
    }

    /** Cuts the SUM at plus and minus first, then each TERM at times and over. */
    private int wageOf(Person who) {
        if (land.sum == null) {
            return 0;
        }
        List<BigInteger> onTheWay = new ArrayList<>();
        BigInteger sum = BigInteger.ZERO;
        int at = 0;
        String sign = "plus";
        while (at < land.sum.size()) {
            BigInteger term = part(land.sum.get(at), who);
            at++;
            onTheWay.add(term);
            while (at < land.sum.size() && land.sum.get(at).matches("times|over")) {
                BigInteger p = part(land.sum.get(at + 1), who);
                onTheWay.add(p);
                if (land.sum.get(at).equals("over") && p.signum() == 0) {
                    return 0;
                }
                term = land.sum.get(at).equals("times") ? term.multiply(p) : term.divide(p);
                onTheWay.add(term);
                at += 2;
            }
            sum = sign.equals("plus") ? sum.add(term) : sum.subtract(term);
            onTheWay.add(sum);
            if (at < land.sum.size()) {
                sign = land.sum.get(at);
                at++;
            }
        }
        for (BigInteger b : onTheWay) {
            if (b.abs().compareTo(big(1000000000)) > 0) {
                return 0;
            }
        }
        return sum.max(BigInteger.ZERO).min(big(9999)).intValue();
    }

    int wage(int school, int gift, int month, int state) {
        if (school < 0 || school > 300 || gift < 0 || gift > 999 || !isMonth(month) || !isState(state)) {
            return -2;
        }
        return wageOf(new Person(state, month, school, 0, gift, 0));
    }

    // ------------------------------------------------------------ sheets

    private int drawOf(int n) {
        x = big(1103515245).multiply(big(x)).add(big(12345)).mod(big(2147483648L)).longValue();
        return (int) (x / 65536 % n);
    }

    private List<Person> drawn(int seed, int n) {
        x = seed;
        List<Person> to = new ArrayList<>();
        int shares = land.sorts.stream().mapToInt(Sort::share).sum();
        int noise = land.noise == null ? 0 : land.noise;
        for (int i = 0; i < n; i++) {
            int state = drawOf(land.laws.size());
            int month = drawOf(12) + 1;
            int left = drawOf(shares);
            int s = 0;
            while (left >= land.sorts.get(s).share()) {
                left -= land.sorts.get(s).share();
                s++;
            }
            Sort sort = land.sorts.get(s);
            int wish = sort.wish() + drawOf(sort.spread() + 1);
            int luck = drawOf(2 * noise + 1);
            int school = Math.min(300, Math.max(forcedOf(state, month), wish));
            int gift = sort.gift() + land.leaks.getOrDefault(month, 0);
            int wage = wageOf(new Person(state, month, school, 0, gift, wish)) + luck - noise;
            to.add(new Person(state, month, school, Math.max(0, Math.min(9999, wage)), gift, wish));
        }
        return to;
    }

    private static boolean isSeed(int seed) {
        return seed >= 0 && seed <= 2000000000;
    }

    int draw(int seed, int n) {
        if (!isSeed(seed) || n < 1 || n > 200) {
            return -2;
        }
        if (land.laws.isEmpty() || land.sorts.isEmpty()) {
            return -6;
        }
        all = drawn(seed, n);
        return n;
    }

    int sheet(long state, long month, long school, long wage) {
        if (state < 0 || state >= land.laws.size() || month < 1 || month > 12 || school < 0 || school > 300 || wage < 0 || wage > 9999) {
            return -2;
        }
        if (all.size() == 200) {
            return -3;
        }
        all.add(new Person((int) state, (int) month, (int) school, (int) wage, 0, (int) school));
        return all.size() - 1;
    }

    private boolean isSheet(int i) {
        return i >= 0 && i < all.size();
    }

    private boolean isPlaced(int i) {
        return isSheet(i) && isState(all.get(i).state());
    }

    int told(int i, int what) {
        if (!isSheet(i) || what < 0 || what > 5) {
            return -1;
        }
        Person p = all.get(i);
        return new int[] {p.state(), p.month(), p.school(), p.wage(), p.gift(), p.wish()}[what];
    }

    int would(int i, int month) {
        return isPlaced(i) && isMonth(month) ? Math.max(forcedOf(all.get(i).state(), month), all.get(i).wish()) : -2;
    }

    private static Person moved(Person p, int school, int month) {
        return new Person(p.state(), month, school, p.wage(), p.gift(), p.wish());
    }

    private int worthOf(Person p) {
        return wageOf(moved(p, Math.min(300, p.school() + 1), p.month())) - wageOf(p);
    }

    int worth(int i) {
        return isPlaced(i) ? worthOf(all.get(i)) : (int) NOTHING;
    }

    private boolean isHeld(Person p) {
        return isState(p.state()) && forcedOf(p.state(), p.month()) > p.wish();
    }

    int month(int month, int what) {
        if (month < 0 || month > 12 || what < 0 || what > 3) {
            return -1;
        }
        int t = 0;
        for (Person p : all) {
            if (month == 0 || p.month() == month) {
                t += new int[] {1, p.school(), p.wage(), isHeld(p) ? 1 : 0}[what];
            }
        }
        return t;
    }

    // ------------------------------------------------------------ sums

    private static BigInteger big(long v) {
        return BigInteger.valueOf(v);
    }

    /** Null: it can't be told. */
    private static BigInteger parts(long of, BigInteger upper, BigInteger lower) {
        return lower.signum() == 0 ? null : upper.multiply(big(of)).divide(lower);
    }

    private static long face(BigInteger v) {
        return v == null ? NOTHING : v.longValueExact();
    }

    private static BigInteger plainOf(List<Person> who) {
        BigInteger n = big(who.size());
        BigInteger s = BigInteger.ZERO;
        BigInteger w = s;
        BigInteger sw = s;
        BigInteger ss = s;
        for (Person p : who) {
            s = s.add(big(p.school()));
            w = w.add(big(p.wage()));
            sw = sw.add(big((long) p.school() * p.wage()));
            ss = ss.add(big((long) p.school() * p.school()));
        }
        return parts(1000, n.multiply(sw).subtract(s.multiply(w)), n.multiply(ss).subtract(s.multiply(s)));
    }

    /** Some numbers of people, cut in two by places of the list. */
    static final class Two {
        BigInteger n = BigInteger.ZERO;
        BigInteger m = BigInteger.ZERO;
        BigInteger s = BigInteger.ZERO;
        BigInteger t = BigInteger.ZERO;
        BigInteger squares = BigInteger.ZERO;

        Two(long[] v, IntPredicate isMoved) {
            for (int i = 0; i < v.length; i++) {
                if (isMoved.test(i)) {
                    n = n.add(BigInteger.ONE);
                    s = s.add(big(v[i]));
                } else {
                    m = m.add(BigInteger.ONE);
                    t = t.add(big(v[i]));
                }
                squares = squares.add(big(v[i]).multiply(big(v[i])));
            }
        }

        boolean both() {
            return n.signum() > 0 && m.signum() > 0;
        }

        BigInteger count() {
            return n.add(m);
        }

        BigInteger d() {
            return s.multiply(m).subtract(t.multiply(n));
        }

        BigInteger q() {
            return n.multiply(m).multiply(squares).subtract(s.multiply(s).multiply(m)).subtract(t.multiply(t).multiply(n));
        }
    }

    private static long[] of(List<Person> who, int what, long b) {
        long[] v = new long[who.size()];
        for (int i = 0; i < v.length; i++) {
            Person p = who.get(i);
            v[i] = what == 0 ? p.school() : what == 1 ? p.wage() - b * p.school() : p.gift();
        }
        return v;
    }

    private static BigInteger byOf(List<Person> who, IntPredicate isMoved, long leaked) {
        Two school = new Two(of(who, 0, 0), isMoved);
        Two wage = new Two(of(who, 1, 0), isMoved);
        if (!school.both()) {
            return null;
        }
        BigInteger away = big(leaked).multiply(school.n).multiply(school.m);
        return parts(1, wage.d().multiply(big(1000)).subtract(away), school.d());
    }

    private static boolean isPush(int push) {
        return push >= 1 && push <= 4094;
    }

    private static IntPredicate by(List<Person> who, int push) {
        return i -> (push >> who.get(i).month() - 1 & 1) == 1;
    }

    private static BigInteger meanOf(List<Person> who, int what, int push) {
        Two two = new Two(of(who, what, 0), by(who, push));
        return isPush(push) && two.both() ? parts(1000, two.d(), two.n.multiply(two.m)) : null;
    }

    private static BigInteger strongOf(List<Person> who, int push) {
        Two two = new Two(of(who, 0, 0), by(who, push));
        if (!isPush(push) || !two.both() || who.size() < 3) {
            return null;
        }
        if (two.q().signum() == 0) {
            return big(two.d().signum() == 0 ? 0 : 999999999);
        }
        return parts(100, two.count().subtract(big(2)).multiply(two.d()).multiply(two.d()), two.count().multiply(two.q()));
    }

    long plain() {
        return face(plainOf(all));
    }

    private BigInteger byPush(int push) {
        return isPush(push) ? byOf(all, by(all, push), 0) : null;
    }

    long by(int push) {
        return face(byPush(push));
    }

    private Map<Integer, List<Person>> grouped() {
        Map<Integer, List<Person>> g = new TreeMap<>();
        for (Person p : all) {
            g.computeIfAbsent(p.state() * 100 + p.month(), k -> new ArrayList<>()).add(p);
        }
        return g;
    }

    private BigInteger manyOf() {
        long a = 0;
        long b = 0;
        long s = 0;
        long w = 0;
        for (List<Person> g : grouped().values()) {
            long gs = g.stream().mapToLong(Person::school).sum();
            long gw = g.stream().mapToLong(Person::wage).sum();
            a += gs * gw / g.size();
            b += gs * gs / g.size();
            s += gs;
            w += gw;
        }
        long n = all.size();
        return parts(1000, big(n * a - s * w), big(n * b - s * s));
    }

    long many() {
        return face(manyOf());
    }

    int groups() {
        return grouped().size();
    }

    long moves(int push) {
        return face(meanOf(all, 0, push));
    }

    long strong(int push) {
        return face(strongOf(all, push));
    }

    int strongest() {
        int first = -1;
        BigInteger most = null;
        for (int m = 1; m <= 12; m++) {
            BigInteger s = strongOf(all, 1 << m - 1);
            if (s != null && (most == null || s.compareTo(most) > 0)) {
                most = s;
                first = m;
            }
        }
        return first;
    }

    // ------------------------------------------------------------ spans

    /** Null: no span; else the numbers that are kept. */
    private static List<Integer> spanOf(List<Person> who, IntPredicate isMoved, int k, boolean usual) {
        Two school = new Two(of(who, 0, 0), isMoved);
        if (!school.both() || who.size() < 3) {
            return null;
        }
        BigInteger own = byOf(who, isMoved, 0);
        if (usual && (own == null || own.divide(big(1000)).abs().compareTo(big(99)) > 0)) {
            return null;
        }
        List<Integer> kept = new ArrayList<>();
        for (int b = -99; b <= 99; b++) {
            Two left = new Two(of(who, 1, b), isMoved);
            BigInteger q = usual ? new Two(of(who, 1, own.divide(big(1000)).longValue()), isMoved).q() : left.q();
            BigInteger bound = big(k).multiply(left.count()).multiply(q).divide(left.count().subtract(big(2)));
            if (left.d().multiply(left.d()).compareTo(bound) <= 0) {
                kept.add(b);
            }
        }
        return kept;
    }

    private static long spanAnswer(List<Integer> kept, int what) {
        if (kept == null) {
            return NOTHING;
        }
        int n = kept.size();
        switch (what) {
            case 0: return n;
            case 1: return n == 0 ? NOTHING : kept.get(0);
            case 2: return n == 0 ? NOTHING : kept.get(n - 1);
            default: return n > 0 && kept.get(n - 1) - kept.get(0) == n - 1 ? 1 : 0;
        }
    }

    private long spanBy(int push, int k, int what, boolean usual) {
        if (!isPush(push) || k < 1 || k > 10 || what < 0 || what > 3) {
            return NOTHING;
        }
        return spanAnswer(spanOf(all, by(all, push), k, usual), what);
    }

    long span(int push, int k, int what) {
        return spanBy(push, k, what, false);
    }

    long usual(int push, int k, int what) {
        return spanBy(push, k, what, true);
    }

    int kept(int push, int k, int number) {
        if (!isPush(push) || k < 1 || k > 10 || number < -99 || number > 99) {
            return -2;
        }
        List<Integer> kept = spanOf(all, by(all, push), k, false);
        return kept == null ? -2 : kept.contains(number) ? 1 : 0;
    }

    long hats(int seed, int n, int k, int what) {
        if (!isSeed(seed) || n < 1 || n > 40 || k < 1 || k > 10 || what < 0 || what > 2) {
            return -2;
        }
        BigInteger plain = plainOf(all);
        if (what == 1 && plain == null) {
            return NOTHING;
        }
        x = seed;
        int counted = 0;
        for (int h = 0; h < n; h++) {
            boolean[] hat = new boolean[all.size()];
            for (int i = 0; i < hat.length; i++) {
                hat[i] = drawOf(2) == 1;
            }
            BigInteger own = byOf(all, i -> hat[i], 0);
            if (own == null) {
                continue;
            }
            if (what == 0 || what == 1 && own.subtract(plain).abs().compareTo(big(1000)) <= 0) {
                counted++;
            }
            if (what == 2) {
                List<Integer> kept = spanOf(all, i -> hat[i], k, true);
                counted += kept != null && !kept.contains(0) ? 1 : 0;
            }
        }
        return counted;
    }

    long leak(int push) {
        return face(meanOf(all, 1, push));
    }

    long leaked(int push, int v) {
        return v < -9999999 || v > 9999999 || !isPush(push) ? NOTHING : face(byOf(all, by(all, push), v));
    }

    long homes(int push) {
        return face(meanOf(all, 2, push));
    }

    // ------------------------------------------------------------ whom it held

    int whom(int what) {
        if (what < 0 || what > 1) {
            return -1;
        }
        return (int) all.stream().filter(p -> isHeld(p) && (what == 0 || worthOf(p) != 0)).count();
    }

    private BigInteger truthOf(List<Person> who, boolean held) {
        List<Person> some = who.stream().filter(p -> !held || isHeld(p)).toList();
        if (some.stream().anyMatch(p -> !isState(p.state()))) {
            return null;
        }
        return parts(1000, big(some.stream().mapToLong(this::worthOf).sum()), big(some.size()));
    }

    long truth(boolean held) {
        return face(truthOf(all, held));
    }

    private BigInteger leanOf(int what, int push) {
        BigInteger own = what == 0 ? plainOf(all) : what == 1 ? byPush(push) : what == 2 ? manyOf() : null;
        BigInteger due = truthOf(all, true);
        return own == null || due == null ? null : own.subtract(due);
    }

    long leans(int what, int push) {
        return face(leanOf(what, push));
    }

    int least(int push) {
        int first = -1;
        for (int what = 0; what < 3; what++) {
            BigInteger lean = leanOf(what, push);
            if (lean != null && (first == -1 || lean.abs().compareTo(leanOf(first, push).abs()) < 0)) {
                first = what;
            }
        }
        return first;
    }

    int beside(int i, int month) {
        if (!isPlaced(i) || !isMonth(month)) {
            return (int) NOTHING;
        }
        Person p = all.get(i);
        return wageOf(moved(p, p.school(), month)) - wageOf(p);
    }

    int needs(int push, int hundredths) {
        if (!isPush(push) || hundredths < 0 || hundredths > 1000000) {
            return -2;
        }
        for (int n = 3; n <= all.size(); n++) {
            BigInteger s = strongOf(all.subList(0, n), push);
            if (s != null && s.compareTo(big(hundredths)) >= 0) {
                return n;
            }
        }
        return -1;
    }

    int worlds(int push, int seed, int n, int k, int what) {
        if (!isPush(push) || !isSeed(seed) || n < 1 || n > 20 || k < 1 || k > 10 || what < 0 || what > 2) {
            return -2;
        }
        if (land.laws.isEmpty() || land.sorts.isEmpty() || all.isEmpty()) {
            return -6;
        }
        int counted = 0;
        for (int i = 0; i < n; i++) {
            List<Person> world = drawn(seed + i, all.size());
            if (what == 2) {
                BigInteger s = strongOf(world, push);
                counted += s != null && s.compareTo(big(1000)) >= 0 ? 1 : 0;
                continue;
            }
            BigInteger due = truthOf(world, true);
            List<Integer> kept = spanOf(world, by(world, push), k, what == 1);
            counted += due != null && kept != null && kept.contains(due.divide(big(1000)).intValue()) ? 1 : 0;
        }
        return counted;
    }

    int only(int state) {
        if (!isState(state)) {
            return -2;
        }
        all = new ArrayList<>(all.stream().filter(p -> p.state() == state).toList());
        return all.size();
    }

    // ------------------------------------------------------------ slots and images

    private static boolean isSlot(int slot) {
        return slot >= 0 && slot < 4;
    }

    int judge(int slot) {
        if (!isSlot(slot)) {
            return -2;
        }
        if (rows[slot] == null) {
            return -6;
        }
        for (int i = 0; i < rows[slot].length; i++) {
            if (i >= all.size() || rows[slot][i] != all.get(i).school()) {
                return i;
            }
        }
        return rows[slot].length;
    }

    int sheets(int slot) {
        if (!isSlot(slot)) {
            return -2;
        }
        if (rows[slot] == null) {
            return -6;
        }
        long[] r = rows[slot];
        int told = 0;
        while (told < r.length / 4 && sheet(r[4 * told], r[4 * told + 1], r[4 * told + 2], r[4 * told + 3]) >= 0) {
            told++;
        }
        return told;
    }

    int count(int what) {
        int standing = 0;
        for (long[] r : rows) {
            standing += r == null ? 0 : 1;
        }
        int[] answers = {land.laws.size(), land.sorts.size(), all.size(), land.lines,
            land.sum == null ? 0 : land.sum.size() / 2 + 1, land.noise == null ? 0 : land.noise, tape.length(), standing};
        return what < 0 || what > 7 ? -1 : answers[what];
    }

    int keep(int k) {
        if (k < 0 || k > 2) {
            return -2;
        }
        keptLand[k] = land;
        keptSheets.set(k, new ArrayList<>(all));
        return 0;
    }

    int back(int k) {
        if (k < 0 || k > 2) {
            return -2;
        }
        if (keptLand[k] == null) {
            return -6;
        }
        land = keptLand[k];
        all = new ArrayList<>(keptSheets.get(k));
        return 0;
    }

    int row(int slot, int width, int n) {
        if (!isSlot(slot) || width < 0 || width > 3 || n > 60) {
            return -2;
        }
        if (n < 0) {
            return -3;
        }
        rows[slot] = new long[n];
        widths[slot] = width;
        return 0;
    }

    int write(int slot, int i, long v) {
        if (!isSlot(slot)) {
            return -2;
        }
        if (rows[slot] == null) {
            return -6;
        }
        if (i < 0 || i >= rows[slot].length) {
            return -7;
        }
        int away = 64 - (8 << widths[slot]);
        rows[slot][i] = v << away >> away;
        return 0;
    }

    int paste(int slot, int i, int to, int k, int n) {
        if (!isSlot(slot) || !isSlot(to)) {
            return -2;
        }
        if (rows[slot] == null || rows[to] == null) {
            return -6;
        }
        if (widths[slot] != widths[to]) {
            return -8;
        }
        if (i < 0 || k < 0 || n < 0 || (long) i + n > rows[slot].length || (long) k + n > rows[to].length) {
            return -7;
        }
        long[] before = rows[slot].clone();
        for (int j = 0; j < n; j++) {
            rows[to][k + j] = before[i + j];
        }
        return 0;
    }
}
