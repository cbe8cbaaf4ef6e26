import java.lang.reflect.Constructor;
import java.lang.reflect.Field;
import java.lang.reflect.Method;
import java.lang.reflect.Modifier;
import java.nio.file.Files;
import java.nio.file.Path;
import java.util.ArrayList;
import java.util.HashSet;
import java.util.List;
import java.util.Set;
import java.util.TreeSet;

/** The public face (LANGUAGE.md, rule 1), and the signs of the text; RulesTest has the other rules. Run from the project's folder. */
public final class FaceTest {
    private static final Check C = new Check("FaceTest");
    private static final String[] FACE = {
        "int feed(int,int,int,int,int)", "int end(int)", "int land()", "int fault(int)", "int forced(int,int)", "int old(int,int)",
        "int wage(int,int,int,int)", "int draw(int,int)", "int sheet(int,int,int,int)", "int told(int,int)", "int would(int,int)",
        "int worth(int)", "int month(int,int)", "long plain()", "long by(int)", "long many()", "int groups()", "long moves(int)",
        "long strong(int)", "int strongest()", "int span(int,int,int)", "int usual(int,int,int)", "int kept(int,int,int)",
        "int hats(int,int,int,int)", "long leak(int)", "long leaked(int,int)", "long homes(int)", "int whom(int)", "long truth(boolean)",
        "long leans(int,int)", "int least(int)", "int beside(int,int)", "int needs(int,int)", "int worlds(int,int,int,int,int)",
        "int only(int)", "int judge(int)", "int sheets(int)", "int count(int)", "int keep(int)", "int back(int)", "int row(int,int,int)",
        "int write(int,int,long)", "int paste(int,int,int,int,int)"};

    public static void main(String[] args) throws Exception {
        members();
        signs(Files.readString(Path.of("src/main/java/MonthPush.java")));
        C.close();
    }

    private static void members() throws Exception {
        C.holds("the class is public and final", MonthPush.class.getModifiers() == (Modifier.PUBLIC | Modifier.FINAL));
        Set<String> open = new TreeSet<>();
        Set<String> names = new HashSet<>();
        List<String> hidden = new ArrayList<>();
        for (Method m : MonthPush.class.getDeclaredMethods()) {
            if (Modifier.isPrivate(m.getModifiers())) {
                hidden.add(m.getName());
            } else {
                C.due(m.getName() + " is public alone", m.getModifiers(), Modifier.PUBLIC);
                open.add(signature(m));
                names.add(m.getName());
            }
        }
        C.holds("the methods: " + open, open.equals(new TreeSet<>(List.of(FACE))));
        for (String name : hidden) {
            C.holds(name + " is no public name too", !names.contains(name));
        }
        for (Field f : MonthPush.class.getDeclaredFields()) {
            C.holds(f.getName() + " is private, or NONE", Modifier.isPrivate(f.getModifiers()) || f.getName().equals("NONE"));
        }
        Constructor<?>[] made = MonthPush.class.getDeclaredConstructors();
        C.due("constructors", made.length, 1);
        C.due("its parameters", made[0].getParameterCount(), 0);
        C.holds("it is public", Modifier.isPublic(made[0].getModifiers()));
        C.due("NONE", MonthPush.class.getField("NONE").getInt(null), -1);
    }

    private static String signature(Method m) {
        StringBuilder b = new StringBuilder(m.getReturnType().getName()).append(' ').append(m.getName()).append('(');
        for (int i = 0; i < m.getParameterCount(); i++) {
            b.append(i == 0 ? "" : ",").append(m.getParameterTypes()[i].getName());
        }
        return b.append(')').toString();
    }

    /* Constants have signs 1 to 127 alone (rule 4): here the whole text has. */
    private static void signs(String source) {
        for (char c : source.toCharArray()) {
            C.holds("plain signs alone: " + (int) c, c == 10 || c >= 32 && c < 127);
        }
    }
}
