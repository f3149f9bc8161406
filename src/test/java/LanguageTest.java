import java.io.IOException;
import java.lang.reflect.Constructor;
import java.lang.reflect.Field;
import java.lang.reflect.Method;
import java.lang.reflect.Modifier;
import java.nio.file.Files;
import java.nio.file.Path;
import java.util.Arrays;
import java.util.Set;
import java.util.TreeSet;
import java.util.regex.Pattern;

/** The public face, and the rules of LANGUAGE.md that can be seen in the text or the classes. */
public final class LanguageTest {
    private static final String FACE = "clock(int)int mean(int,int)int wave(int,int,int,int)int survey(int,int)int cos(int)long "
        + "height(int,int,int)long force(int,int,int)int gauge(int,int,int)int reading(int,int,int)int out(int,boolean)int "
        + "at(int,int)int air(int,int)int compare(int,int,int)int rule(int,int)int surge(int,int)long lacking()int "
        + "shoal(int,int,int)int dredge(int,int,int)int depth(int,int,int)long water(int,int)long waters(int,int,int)int "
        + "found(int,int,int)int range(int,int)long spring(int,boolean)int tide(int,int,int)int stream(int,int)int "
        + "ship(int,int,int,int,int,int)int ask(int,int)int asked()int trace(int)int as(int,int)int fleet(int,int,int)int "
        + "join(int,int,int)int member(int,int)int move(int,int,int,int,int)int shared(int,int)int leg(int,int,int,int)int "
        + "clear(int)int sun(int,int)int comes(int,int,int,int)int holds(int,int,int)int windows(int,int,int,int)int "
        + "window(int,boolean)int wrong(int)int passage(int,int,int)int plan()int planned(int,int)int again(int)int pass(int)int "
        + "tries()int held(int)int count(int)int finding()int digest()int";
    private static final Due due = new Due("LanguageTest");

    public static void main(String[] args) throws IOException {
        String source = Files.readString(Path.of(System.getProperty("tidedesk.source", "src/main/java/TideDesk.java")));
        face();
        nestedClasses();
        words(source.replaceAll("(?s)/\\*.*?\\*/", "").replaceAll("//[^\n]*", ""));
        due.end();
    }

    private static void face() {
        Class<TideDesk> c = TideDesk.class;
        due.is("public and final", c.getModifiers(), Modifier.PUBLIC | Modifier.FINAL);
        Set<String> methods = new TreeSet<>();
        for (Method m : c.getDeclaredMethods()) {
            if (!Modifier.isPrivate(m.getModifiers())) methods.add(signature(m));
        }
        due.is("the methods are those of the document: " + methods, methods.equals(new TreeSet<>(Arrays.asList(FACE.split(" ")))) ? 1 : 0, 1);
        for (Field f : c.getDeclaredFields()) {
            boolean isPublic = Set.of("NONE", "BAD", "NO", "FULL").contains(f.getName());
            due.is("field " + f.getName(), Modifier.isPublic(f.getModifiers()) ? 1 : 0, isPublic ? 1 : 0);
            due.is("field " + f.getName(), Modifier.isPublic(f.getModifiers()) || Modifier.isPrivate(f.getModifiers()) ? 1 : 0, 1);
        }
        due.row("constants", Due.row(-1, -2, -3, -4), TideDesk.NONE, TideDesk.BAD, TideDesk.NO, TideDesk.FULL);
        Constructor<?>[] made = c.getDeclaredConstructors();
        due.row("constructor", Due.row(1, 0, Modifier.PUBLIC), made.length, made[0].getParameterCount(), made[0].getModifiers());
    }

    private static String signature(Method m) {
        StringBuilder s = new StringBuilder(m.getName()).append('(');
        String comma = "";
        for (Class<?> p : m.getParameterTypes()) {
            s.append(comma).append(p.getName());
            comma = ",";
        }
        return s.append(')').append(m.getReturnType().getName()).toString();
    }

    private static void nestedClasses() {
        Class<?>[] nested = TideDesk.class.getDeclaredClasses();
        due.is("at most twelve classes", nested.length + 1 <= 12 ? 1 : 0, 1);
        Set<String> names = new TreeSet<>();
        for (String s : FACE.split(" ")) names.add(s.substring(0, s.indexOf('(')));
        for (Method m : TideDesk.class.getDeclaredMethods()) {
            if (Modifier.isPrivate(m.getModifiers())) due.is("name of " + m, names.contains(m.getName()) ? 1 : 0, 0);
        }
        for (Class<?> c : nested) {
            due.is("static: " + c, Modifier.isStatic(c.getModifiers()) ? 1 : 0, 1);
            due.is("hidden: " + c, c.getModifiers() & (Modifier.PUBLIC | Modifier.PROTECTED), 0);
            for (Method m : c.getDeclaredMethods()) {
                due.is("parameters of " + m, m.getParameterCount() <= 7 ? 1 : 0, 1);
                due.is("name of " + m, names.contains(m.getName()) ? 1 : 0, 0);
            }
            fields(c);
        }
        fields(TideDesk.class);
    }

    private static void fields(Class<?> c) {
        int many = 0;
        for (Field f : c.getDeclaredFields()) {
            boolean isStatic = Modifier.isStatic(f.getModifiers());
            if (!isStatic) many++;
            due.is("static and not final: " + f, isStatic && !Modifier.isFinal(f.getModifiers()) ? 1 : 0, 0);
            due.is("static real: " + f, isStatic && f.getType() == double.class ? 1 : 0, 0);
        }
        due.is("fields of " + c, many <= 20 ? 1 : 0, 1);
    }

    /** Rules 2, 4, 6 and 13, as far as a word tells that one of them is broken. */
    private static void words(String code) {
        String[] banned = {"\\bpackage\\b", "\\bimport\\s+(?!java\\.util\\.(ArrayList|List|Arrays|Iterator);)", "\\bthrows?\\b", "\\btry\\b",
            "\\bcatch\\b", "\\bfinally\\b", "\\bsynchronized\\b", "\\bassert\\b", "\\bprotected\\b", "\\w+Exact\\b", "\\bhashCode\\b", "::",
            "\\b(Double|Float|StrictMath|Object|Random|Thread|Runtime)\\b", "\\bSystem\\.(?!arraycopy)",
            "\\bMath\\.(?!(max|min|abs|floorDiv|floorMod)\\b)"};
        for (String word : banned) due.is("the word " + word, Pattern.compile(word).matcher(code).find() ? 1 : 0, 0);
        for (String line : code.split("\n")) {
            boolean isCase = line.strip().startsWith("case") || line.strip().startsWith("default");
            if (line.contains("->")) due.is("a lambda: " + line.strip(), isCase ? 1 : 0, 1);
        }
    }
}
