import java.io.IOException;
import java.lang.reflect.Constructor;
import java.lang.reflect.Field;
import java.lang.reflect.Method;
import java.lang.reflect.Modifier;
import java.nio.file.Files;
import java.nio.file.Path;
import java.util.ArrayList;
import java.util.List;
import java.util.Set;
import java.util.TreeSet;
import java.util.regex.Matcher;
import java.util.regex.Pattern;

/** The class has the document's face and no other, and keeps to what of LANGUAGE.md can be seen from outside. */
public final class FaceTest {
    private static final String[] FACE = {
        "int feed(int,int,int,int,int)", "int street(int)", "int fault()", "int where()", "int house(int,int)",
        "int spark(int,int)", "int burns(int)", "int litBy(int)", "int burnt(int)", "int lastDay()", "int next(int)",
        "int agrees(int)", "int burnsIf(int,int)", "int saves(int)", "int bestTold()", "int dumbDay()", "int ways()",
        "int wayAt(int,int)", "int bestWay()", "int wayBurnt(int)", "int couldRing()", "int safe(int)", "int bestCut()",
        "int fits()", "int fitAt(int,int)", "int nextBy(int,int)", "int tryDay()", "int tryLeaves()", "int judge()",
        "int rings(boolean,boolean,boolean)", "int rests()", "int rest()", "long odds(int,int,boolean)",
        "long quiet(int,boolean)", "long mean(int,boolean)", "int years(int,int,int)", "int worstYear(int,int)",
        "int tell(int)", "boolean pull(int)", "boolean mend(int)", "int day()", "boolean undo()", "int image()",
        "boolean back(int)", "int led(int)", "int size(int)", "int trouble()"};
    private static final String SOURCE = "src/main/java/NextBell.java";

    private FaceTest() {
    }

    public static void main(String[] args) throws IOException {
        face();
        nested();
        source();
        Due.end("FaceTest");
    }

    private static void face() {
        Set<String> due = new TreeSet<>(List.of(FACE));
        Set<String> found = new TreeSet<>();
        Set<String> names = new TreeSet<>();
        for (Method m : NextBell.class.getDeclaredMethods()) {
            if (Modifier.isPublic(m.getModifiers())) {
                found.add(told(m));
                names.add(m.getName());
            }
        }
        Due.is("methods of the face " + due + " against " + found, found.equals(due), true);
        for (Method m : NextBell.class.getDeclaredMethods()) {
            if (!Modifier.isPublic(m.getModifiers())) {
                Due.is("private " + m, Modifier.isPrivate(m.getModifiers()), true);
                Due.is("named otherwise: " + m, names.contains(m.getName()), false);
            }
        }
        for (Field f : NextBell.class.getDeclaredFields()) {
            Due.is("field " + f, Modifier.isPublic(f.getModifiers()), f.getName().equals("NONE"));
            Due.is("field is private " + f, Modifier.isPrivate(f.getModifiers()), !f.getName().equals("NONE"));
            Due.is("static is final: " + f, Modifier.isStatic(f.getModifiers()) && !Modifier.isFinal(f.getModifiers()), false);
        }
        Constructor<?>[] made = NextBell.class.getDeclaredConstructors();
        Due.is("constructors", made.length, 1);
        Due.is("its parameters", made[0].getParameterCount(), 0);
        Due.is("final", Modifier.isFinal(NextBell.class.getModifiers()), true);
        Due.is("NONE", NextBell.NONE, -1);
        for (Class<?> e : ledOf().getExceptionTypes()) {
            Due.is("led throws " + e, e == java.util.NoSuchElementException.class, true);
        }
        Due.is("led tells what it throws", ledOf().getExceptionTypes().length, 1);
    }

    private static Method ledOf() {
        for (Method m : NextBell.class.getDeclaredMethods()) {
            if (m.getName().equals("led")) {
                return m;
            }
        }
        throw new IllegalStateException("no led");
    }

    private static String told(Method m) {
        List<String> types = new ArrayList<>();
        for (Class<?> t : m.getParameterTypes()) {
            types.add(t.getName());
        }
        return m.getReturnType().getName() + " " + m.getName() + "(" + String.join(",", types) + ")";
    }

    private static void nested() {
        Set<String> face = new TreeSet<>();
        for (String f : FACE) {
            face.add(f.replaceAll(".* |\\(.*", ""));
        }
        Class<?>[] inside = NextBell.class.getDeclaredClasses();
        Due.is("classes at most twelve", inside.length + 1 <= 12, true);
        for (Class<?> c : inside) {
            Due.is("static " + c, Modifier.isStatic(c.getModifiers()) || c.isInterface(), true);
            Due.is("not public " + c, Modifier.isPublic(c.getModifiers()) || Modifier.isProtected(c.getModifiers()), false);
            int own = 0;
            for (Field f : c.getDeclaredFields()) {
                own += Modifier.isStatic(f.getModifiers()) ? 0 : 1;
            }
            Due.is("fields of " + c + ": " + own, own <= 20, true);
            for (Method m : c.getDeclaredMethods()) {
                Due.is("named otherwise: " + m, face.contains(m.getName()), false);
                Due.is("parameters of " + m, m.getParameterCount() <= 7, true);
            }
        }
    }

    private static void source() throws IOException {
        String code = Files.readString(Path.of(SOURCE));
        Due.is("signs", code.chars().allMatch(c -> c == '\n' || c >= 32 && c < 127), true);
        String bare = code.replaceAll("(?s)/\\*.*?\\*/", "").replaceAll("//[^\n]*", "").replaceAll("\"[^\"\n]*\"", "\"\"");
        String[] never = {"\\btry\\b", "\\bcatch\\b", "\\bfinally\\b", "\\bsynchronized\\b", "\\bassert\\b", "->", "::",
            "\\bprotected\\b", "Exact\\b", "\\bstatic \\{", "\\bRandom\\b", "System\\.(?!arraycopy)", "\\bgetMessage\\b",
            "\\bdouble\\b", "\\bfloat\\b", "\\bpackage\\b", "\\bwhile \\(true\\)", "\\bfor \\(;;\\)"};
        for (String word : never) {
            Due.is("not in the source: " + word, Pattern.compile(word).matcher(bare).find(), false);
        }
        Matcher imports = Pattern.compile("import ([^;]*);").matcher(bare);
        while (imports.find()) {
            Due.is("import " + imports.group(1), imports.group(1).equals("java.util.NoSuchElementException"), true);
        }
        short lines = 0;
        for (String line : bare.split("\n")) {
            boolean head = line.matches(" {4,8}[a-z][^=;]*\\) (throws \\w+ )?\\{") && !line.trim().startsWith("if");
            lines = head ? 0 : (short) (lines + 1);
            if (line.matches(" {4,8}\\}")) {
                Due.is("lines of the method ahead of: " + line, lines <= 60, true);
                lines = 0;
            }
        }
    }
}
