import java.lang.reflect.Constructor;
import java.lang.reflect.Field;
import java.lang.reflect.Method;
import java.lang.reflect.Modifier;
import java.nio.file.Files;
import java.nio.file.Path;
import java.util.ArrayList;
import java.util.HashSet;
import java.util.List;
import java.util.Set;
import java.util.TreeSet;
import java.util.regex.Pattern;

/** The public face, and what LANGUAGE.md asks of the file as far as a text shows it. Run from the project's folder. */
public final class FaceTest {
    private static final Check C = new Check("FaceTest");
    private static final String[] FACE = {
        "int feed(int,int,int,int,int)", "int end(int)", "int land()", "int fault(int)", "int forced(int,int)", "int old(int,int)",
        "int wage(int,int,int,int)", "int draw(int,int)", "int sheet(int,int,int,int)", "int told(int,int)", "int would(int,int)",
        "int worth(int)", "int month(int,int)", "long plain()", "long by(int)", "long many()", "int groups()", "long moves(int)",
        "long strong(int)", "int strongest()", "int span(int,int,int)", "int usual(int,int,int)", "int kept(int,int,int)",
        "int hats(int,int,int,int)", "long leak(int)", "long leaked(int,int)", "long homes(int)", "int whom(int)", "long truth(boolean)",
        "long leans(int,int)", "int least(int)", "int beside(int,int)", "int needs(int,int)", "int worlds(int,int,int,int,int)",
        "int only(int)", "int judge(int)", "int sheets(int)", "int count(int)", "int keep(int)", "int back(int)", "int row(int,int,int)",
        "int write(int,int,long)", "int paste(int,int,int,int,int)"};
    private static final String[] RULED_OUT = {
        "\\bthrow\\b", "\\btry\\b", "\\bcatch\\b", "\\bsynchronized\\b", "\\bassert\\b", "->", "::", "Exact\\b", "\\bhashCode\\b",
        "\\bNaN\\b", "\\bSystem\\.(?!arraycopy)", "\\bThread\\b", "\\bpackage\\b", "\\bObject\\b", "while \\(true\\)", "for \\(;;\\)"};

    public static void main(String[] args) throws Exception {
        members();
        methodsOfOwnClasses();
        text(Files.readString(Path.of("src/main/java/MonthPush.java")));
        C.close();
    }

    private static void members() throws Exception {
        C.holds("the class is public and final", MonthPush.class.getModifiers() == (Modifier.PUBLIC | Modifier.FINAL));
        Set<String> open = new TreeSet<>();
        Set<String> names = new HashSet<>();
        List<String> hidden = new ArrayList<>();
        for (Method m : MonthPush.class.getDeclaredMethods()) {
            if (Modifier.isPrivate(m.getModifiers())) {
                hidden.add(m.getName());
            } else {
                C.due(m.getName() + " is public alone", m.getModifiers(), Modifier.PUBLIC);
                open.add(signature(m));
                names.add(m.getName());
            }
        }
        C.holds("the methods: " + open, open.equals(new TreeSet<>(List.of(FACE))));
        for (String name : hidden) {
            C.holds(name + " is no public name too", !names.contains(name));
        }
        for (Field f : MonthPush.class.getDeclaredFields()) {
            C.holds(f.getName() + " is private, or NONE", Modifier.isPrivate(f.getModifiers()) || f.getName().equals("NONE"));
        }
        Constructor<?>[] made = MonthPush.class.getDeclaredConstructors();
        C.due("constructors", made.length, 1);
        C.due("its parameters", made[0].getParameterCount(), 0);
        C.holds("it is public", Modifier.isPublic(made[0].getModifiers()));
        C.due("NONE", MonthPush.class.getField("NONE").getInt(null), -1);
    }

    private static String signature(Method m) {
        StringBuilder b = new StringBuilder(m.getReturnType().getName()).append(' ').append(m.getName()).append('(');
        for (int i = 0; i < m.getParameterCount(); i++) {
            b.append(i == 0 ? "" : ",").append(m.getParameterTypes()[i].getName());
        }
        return b.append(')').toString();
    }

    private static void methodsOfOwnClasses() {
        Class<?>[] own = MonthPush.class.getDeclaredClasses();
        C.holds("at most some twelve classes", own.length <= 11);
        for (Class<?> c : own) {
            C.holds(c + " is static, and not open", Modifier.isStatic(c.getModifiers()) && !Modifier.isPublic(c.getModifiers()));
            int fields = 0;
            for (Field f : c.getDeclaredFields()) {
                fields += Modifier.isStatic(f.getModifiers()) ? 0 : 1;
            }
            C.holds(c + " has at most twenty fields", fields <= 20);
            for (Method m : c.getDeclaredMethods()) {
                C.holds(m + " takes at most seven", m.getParameterCount() <= 7);
            }
        }
    }

    private static void text(String source) {
        String bare = source.replaceAll("(?s)/\\*.*?\\*/", "").replaceAll("//[^\n]*", "");
        for (String word : RULED_OUT) {
            C.holds("without " + word, !Pattern.compile(word).matcher(bare).find());
        }
        for (char c : source.toCharArray()) {
            C.holds("plain signs alone", c == 10 || c >= 32 && c < 127);
        }
        int longest = 0;
        int begun = 0;
        String[] lines = bare.split("\n");
        for (int i = 0; i < lines.length; i++) {
            if (lines[i].matches("    (    )?(?! ).*\\) \\{")) {
                begun = i;
            }
            if (lines[i].matches("    (    )?\\}")) {
                longest = Math.max(longest, i - begun);
            }
        }
        C.holds("methods are short: " + longest, longest <= 60);
        for (String line : lines) {
            if (line.startsWith("import ")) {
                C.holds(line, line.equals("import java.util.Arrays;"));
            }
        }
    }
}
