import java.io.IOException;
import java.lang.reflect.Constructor;
import java.lang.reflect.Field;
import java.lang.reflect.Method;
import java.lang.reflect.Modifier;
import java.nio.file.Files;
import java.nio.file.Path;
import java.util.HashSet;
import java.util.Set;
import java.util.TreeSet;
import java.util.regex.Matcher;
import java.util.regex.Pattern;

/** The face of the document, and those rules of ../shared/LANGUAGE.md that can be seen from outside or in the text. */
public final class LanguageTest {
    private static final String FACE = "person(int,int,int)int may(int,int)int told(int,int)int worth(int,int,int)int train(int,int)int strike()int "
        + "set(int,int)int loss(int,int)int type(long,int)int town()int plan()int lay(int,int)int is(int)int late(int)int gain()int "
        + "wrong()int missed()int day()int best(int,int)int spend(int)int share(int)int vote(int)int choice(int)int lots(int)int "
        + "seed(int)int image()int restore()int clocks(int,int,int,int)long sure(int,int,int,int,int)int film(int,int,int)int "
        + "build(int,int,int)int sheet(int,int,int)int drop(int)int item(int,int,int,long)int copy(int,int,int,int,int)int";
    private static final String[] CONSTANTS = {"BAD", "NOT", "FULL", "NONE", "NULL", "CAST", "INDEX", "SIZE"};
    private static final int[] VALUES = {-1, -2, -3, -4, -11, -12, -13, -14};

    public static void main(String[] args) throws ReflectiveOperationException, IOException {
        constants();
        face();
        classesInside();
        text(Files.readString(Path.of("src/main/java/JarMinutes.java")));
        Due.end();
    }

    private static void constants() throws ReflectiveOperationException {
        Set<String> seen = new TreeSet<>();
        for (Field f : JarMinutes.class.getDeclaredFields()) {
            if (!Modifier.isPrivate(f.getModifiers())) {
                seen.add(f.getName());
            }
        }
        Due.holds("rule 1: constants " + seen, seen.equals(new TreeSet<>(Set.of(CONSTANTS))));
        for (int i = 0; i < CONSTANTS.length; i++) {
            Field f = JarMinutes.class.getField(CONSTANTS[i]);
            Due.due(CONSTANTS[i], f.getInt(null), VALUES[i]);
            Due.due(CONSTANTS[i] + "'s modifiers", f.getModifiers(), Modifier.PUBLIC | Modifier.STATIC | Modifier.FINAL);
        }
    }

    private static void face() {
        Due.due("rule 1: the class's modifiers", JarMinutes.class.getModifiers(), Modifier.PUBLIC | Modifier.FINAL);
        Constructor<?>[] constructors = JarMinutes.class.getDeclaredConstructors();
        Due.due("rule 1: constructors", constructors.length, 1);
        Due.due("rule 1: its modifiers", constructors[0].getModifiers(), Modifier.PUBLIC);
        Due.due("rule 1: its parameters", constructors[0].getParameterCount(), 0);
        Set<String> seen = new TreeSet<>();
        for (Method m : JarMinutes.class.getDeclaredMethods()) {
            if (!Modifier.isPrivate(m.getModifiers())) {
                Due.due("rule 1: modifiers of " + m, m.getModifiers(), Modifier.PUBLIC);
                seen.add(signature(m));
            }
        }
        Set<String> due = new TreeSet<>(Set.of(FACE.split(" ")));
        Due.holds("rule 1: the face " + seen, seen.equals(due));
    }

    private static String signature(Method m) {
        StringBuilder b = new StringBuilder(m.getName()).append('(');
        for (Class<?> p : m.getParameterTypes()) {
            b.append(b.charAt(b.length() - 1) == '(' ? "" : ",").append(p);
        }
        return b.append(')').append(m.getReturnType()).toString();
    }

    private static void classesInside() {
        Set<String> publicNames = new HashSet<>();
        for (String s : FACE.split(" ")) {
            publicNames.add(s.substring(0, s.indexOf('(')));
        }
        Class<?>[] inside = JarMinutes.class.getDeclaredClasses();
        Due.holds("rule 11: twelve classes at most", inside.length < 12);
        members(JarMinutes.class, publicNames);
        for (Class<?> c : inside) {
            Due.holds("rule 2: static " + c, Modifier.isStatic(c.getModifiers()));
            Due.holds("rule 1: not public " + c, !Modifier.isPublic(c.getModifiers()) && !Modifier.isProtected(c.getModifiers()));
            Due.due("rule 2: nothing deeper in " + c, c.getDeclaredClasses().length, 0);
            members(c, publicNames);
        }
    }

    private static void members(Class<?> c, Set<String> publicNames) {
        int fields = 0;
        for (Field f : c.getDeclaredFields()) {
            if (Modifier.isStatic(f.getModifiers())) {
                Due.holds("rule 5: final " + f, Modifier.isFinal(f.getModifiers()));
            } else {
                fields++;
            }
        }
        Due.holds("rule 11: twenty fields at most in " + c, fields <= 20);
        for (Method m : c.getDeclaredMethods()) {
            Due.holds("rule 11: seven parameters at most of " + m, m.getParameterCount() <= 7);
            boolean isFace = c == JarMinutes.class && Modifier.isPublic(m.getModifiers());
            Due.holds("rule 1: no name of the face for " + m, isFace || !publicNames.contains(m.getName()));
            Due.holds("rules 2, 6: made by no lambda, not synchronized " + m, !m.isSynthetic() && !Modifier.isSynchronized(m.getModifiers()));
        }
    }

    private static void text(String whole) {
        String code = whole.replaceAll("(?s)/\\*.*?\\*/", " ").replaceAll("//[^\\n]*", " ").replaceAll("'(\\\\.|[^'])'", "'s'");
        String[] never = {"\\bthrow\\b", "\\bthrows\\b", "\\btry\\b", "\\bcatch\\b", "\\bsynchronized\\b", "\\bassert\\b", "->", "::",
            "\\bpackage\\b", "\\bprotected\\b", "\\bSystem\\.(?!arraycopy\\b)", "\\bMath\\.(?!abs\\b|min\\b|max\\b)",
            "\\bArrays\\.(?!fill\\b)", "\\bimport (?!java\\.util\\.Arrays;)", "\\bjava\\.(?!util\\.Arrays;)", "\\bThread\\b", "\\bvolatile\\b",
            "\\bnative\\b", "\\bObject\\b", "\\bvar\\b", "@", "\""};
        for (String pattern : never) {
            Matcher m = Pattern.compile(pattern).matcher(code);
            Due.holds("rules 3 to 6: none of " + pattern, !m.find());
        }
        Due.holds("rule 3: signs 10, 32 .. 126", whole.chars().allMatch(c -> c == '\n' || c >= 32 && c <= 126));
        Due.holds("rule 1: one class", Pattern.compile("(?m)^\\S*.*\\b(class|interface|enum|record)\\b").matcher(code).results()
            .filter(r -> !r.group().startsWith(" ")).count() == 1);
        int length = 0;
        for (String line : whole.split("\n")) {
            boolean begins = line.matches(" {4,8}(?!private static final class)\\S.*\\) \\{");
            length = begins ? 0 : length + 1;
            Due.holds("rule 11: sixty lines at most " + line, !line.matches(" {4,8}\\}") || length < 60);
        }
    }
}
