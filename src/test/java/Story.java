import java.lang.reflect.InvocationTargetException;
import java.lang.reflect.Method;
import java.util.ArrayList;
import java.util.Arrays;
import java.util.List;

/**
 * A sentence of the document with a run of calls that would go wrong if it were broken.
 *
 * The run is told line by line:
 *   draw(0, 201) = -2        a call, with the answer that is due
 *   ! draw(0, 201) = -2      likewise, and it leaves all as it was
 *   199 x sheet(0, 1, 5, 5)  a call that is made so often (its answers are not looked at without a due one)
 *   "law enter 6 leave 15;"  a text comes behind the TAPE (%0a is the byte 10)
 *   6 x "law x;" = -4        a text so often, and then land() with the answer that is due
 *   0: 0 1 140 463 29 140    SHEET 0 has this STATE, MONTH, SCHOOL, WAGE, GIFT, WISH
 *   new                      from here on another object
 *   # why                    not looked at
 *
 * A run keeps to the 512 calls that an object is used for.
 */
final class Story {
    private static final int CALLS_MAX = 512;
    private static final List<Method> FACE = Arrays.asList(MonthPush.class.getDeclaredMethods());

    private final Check check;
    private final String sentence;
    private MonthPush x = new MonthPush();
    private List<String> made = new ArrayList<>();

    private Story(Check check, String sentence) {
        this.check = check;
        this.sentence = sentence;
    }

    static void tell(Check check, String sentence, String lines) {
        Story story = new Story(check, sentence);
        for (String line : lines.split("\n")) {
            story.line(line.strip());
        }
    }

    private void line(String line) {
        if (line.isEmpty() || line.startsWith("#")) {
            return;
        }
        if (line.equals("new")) {
            x = new MonthPush();
            made = new ArrayList<>();
            return;
        }
        if (line.matches("[0-9]+: .*")) {
            sheetIs(line.substring(0, line.indexOf(':')), line.substring(line.indexOf(": ") + 2).split(" "));
            return;
        }
        int times = 1;
        String rest = line;
        if (line.matches("[0-9]+ x .*")) {
            times = Integer.parseInt(line.substring(0, line.indexOf(' ')));
            rest = line.substring(line.indexOf(" x ") + 3);
        }
        int equals = rest.lastIndexOf(" = ");
        boolean hasDue = equals >= 0 && equals > rest.lastIndexOf('"');
        long due = hasDue ? number(rest.substring(equals + 3).strip()) : 0;
        String what = hasDue ? rest.substring(0, equals).strip() : rest;
        if (what.startsWith("\"")) {
            text(bytes(what.substring(1, what.length() - 1)).repeat(times), hasDue, due);
            return;
        }
        for (int i = 0; i < times; i++) {
            call(what, hasDue, due);
        }
    }

    private void sheetIs(String i, String[] due) {
        for (int what = 0; what < 6; what++) {
            call("told(" + i + ", " + what + ")", true, number(due[what]));
        }
    }

    private void text(String text, boolean hasDue, long due) {
        int before = x.count(6);
        for (int i = 0; i < text.length(); i += 20) {
            StringBuilder feed = new StringBuilder("feed(");
            for (int j = 0; j < 5; j++) {
                feed.append(j == 0 ? "" : ", ").append(Check.four(text, i + 4 * j));
            }
            call(feed.append(")").toString(), false, 0);
        }
        call("end(" + (before + text.length()) + ")", true, before + text.length());
        if (hasDue) {
            call("land()", true, due);
        }
    }

    private void call(String told, boolean hasDue, long due) {
        boolean leavesAll = told.startsWith("! ");
        String call = leavesAll ? told.substring(2) : told;
        if (leavesAll) {
            List<String> with = new ArrayList<>(made);
            with.add(call);
            check.same(sentence + ": " + call + " leaves all as it was", picture(with), picture(made));
        }
        long got = ask(x, call);
        made.add(call);
        if (hasDue) {
            check.due(sentence + ": " + call, got, due);
        }
        check.holds(sentence + ": at most 512 calls", made.size() <= CALLS_MAX);
    }

    // ---------------------------------------------------------------- what there is to be seen

    /* Each part looks at an object of its own: looking takes calls, and some looks change what is there. */
    private static String picture(List<String> calls) {
        StringBuilder seen = new StringBuilder();
        landSeen(again(calls), seen);
        int sheets = again(calls).count(2);
        for (int from = 0; from < sheets; from += 25) {
            sheetsSeen(again(calls), from, Math.min(sheets, from + 25), seen);
        }
        tapeSeen(again(calls), seen);
        for (int k = 0; k < 3; k++) {
            imageSeen(again(calls), k, seen);
        }
        for (int slot = 0; slot < 4; slot++) {
            rowSeen(again(calls), slot, seen);
            lengthSeen(again(calls), slot, seen);
        }
        return seen.toString();
    }

    private static MonthPush again(List<String> calls) {
        MonthPush y = new MonthPush();
        for (String call : calls) {
            ask(y, call);
        }
        return y;
    }

    private static void landSeen(MonthPush y, StringBuilder seen) {
        seen.append("fault ").append(y.fault(0)).append(' ').append(y.fault(1)).append(" count");
        for (int what = 0; what < 8; what++) {
            seen.append(' ').append(y.count(what));
        }
        for (int state = 0; state < 6; state++) {
            seen.append(" law ").append(y.forced(state, 1)).append(' ').append(y.old(state, 12));
            seen.append(' ').append(y.wage(100, 7, 3, state)).append(' ').append(y.wage(0, 0, 12, state));
        }
        if (y.draw(3, 8) == 8) {
            sheetsSeen(y, 0, 8, seen);
        }
        seen.append('\n');
    }

    private static void sheetsSeen(MonthPush y, int from, int to, StringBuilder seen) {
        for (int i = from; i < to; i++) {
            seen.append(" sheet");
            for (int what = 0; what < 6; what++) {
                seen.append(' ').append(y.told(i, what));
            }
        }
    }

    private static void tapeSeen(MonthPush y, StringBuilder seen) {
        seen.append("\ntape ").append(y.land()).append(": ");
        landSeen(y, seen);
    }

    private static void imageSeen(MonthPush y, int k, StringBuilder seen) {
        seen.append("image ").append(y.back(k)).append(": ");
        sheetsSeen(y, 0, Math.min(9, y.count(2)), seen);
        landSeen(y, seen);
    }

    /* The row as SHEETS, as far as its numbers can be such, and as SCHOOL of SHEETS that are 0. */
    private static void rowSeen(MonthPush y, int slot, StringBuilder seen) {
        y.end(0);
        Check.tell(y, "law enter 6 leave 15;".repeat(6));
        y.only(5);
        y.only(0);
        seen.append("row ").append(y.sheets(slot));
        sheetsSeen(y, 0, y.count(2), seen);
        y.only(5);
        y.only(0);
        for (int i = 0; i < 60; i++) {
            y.sheet(0, 1, 0, 0);
        }
        seen.append(' ').append(y.judge(slot));
    }

    private static void lengthSeen(MonthPush y, int slot, StringBuilder seen) {
        int n = 0;
        while (n < 60 && y.write(slot, n, 0) == 0) {
            n++;
        }
        seen.append(" length ").append(n).append(" width");
        int other = (slot + 1) % 4;
        for (int width = 0; width < 4; width++) {
            y.row(other, width, 0);
            seen.append(' ').append(y.paste(slot, 0, other, 0, 0));
        }
        seen.append('\n');
    }

    // ---------------------------------------------------------------- words into calls

    private static long ask(MonthPush y, String call) {
        String name = call.substring(0, call.indexOf('('));
        String inside = call.substring(call.indexOf('(') + 1, call.lastIndexOf(')')).strip();
        String[] words = inside.isEmpty() ? new String[0] : inside.split(",");
        for (Method m : FACE) {
            if (m.getName().equals(name) && m.getParameterCount() == words.length) {
                return answer(y, m, words);
            }
        }
        throw new IllegalStateException("no such call: " + call);
    }

    private static long answer(MonthPush y, Method m, String[] words) {
        Object[] numbers = new Object[words.length];
        for (int i = 0; i < words.length; i++) {
            numbers[i] = asOne(m.getParameterTypes()[i], words[i].strip());
        }
        try {
            return ((Number) m.invoke(y, numbers)).longValue();
        } catch (IllegalAccessException | InvocationTargetException e) {
            throw new IllegalStateException(m.getName() + " " + Arrays.toString(words), e);
        }
    }

    private static Object asOne(Class<?> type, String word) {
        if (type == boolean.class) {
            return Boolean.valueOf(word);
        }
        return type == long.class ? (Object) number(word) : (Object) Math.toIntExact(number(word));
    }

    private static long number(String word) {
        switch (word) {
            case "NONE": return -1;
            case "NOTHING": return Check.NOTHING;
            case "MIN": return Integer.MIN_VALUE;
            case "MAX": return Integer.MAX_VALUE;
            case "LONGMIN": return Long.MIN_VALUE;
            case "LONGMAX": return Long.MAX_VALUE;
            default: return Long.parseLong(word.replace("_", ""));
        }
    }

    private static String bytes(String told) {
        StringBuilder text = new StringBuilder();
        for (int i = 0; i < told.length(); i++) {
            if (told.charAt(i) == '%') {
                text.append((char) Integer.parseInt(told.substring(i + 1, i + 3), 16));
                i += 2;
            } else {
                text.append(told.charAt(i));
            }
        }
        return text.toString();
    }
}
