import java.lang.reflect.Constructor;
import java.lang.reflect.Field;
import java.lang.reflect.Method;
import java.lang.reflect.Modifier;
import java.nio.charset.StandardCharsets;
import java.nio.file.Files;
import java.nio.file.Path;
import java.util.ArrayList;
import java.util.Arrays;
import java.util.List;
import java.util.Set;
import java.util.TreeSet;

/** The face is the document's and no more; the file keeps to those rules of LANGUAGE.md that can be seen from outside. */
public final class FaceTest {
    private static final String[] METHODS = {
        "int feed(int,int,int,int,int)", "boolean end(int)", "int fault(int)", "int text(int)", "int person(int,int)",
        "int deed(int,int)", "int left(int,int)", "boolean law(int)", "boolean rumour(int)", "int commit(int,int)",
        "int sell(int,int,int)", "int atone(int,int)", "int shave(int)", "int give(int)", "int day()", "int years(int,long)",
        "int undo()", "int log(int,int)", "int step(int,int,int)", "int run(int,int)", "int perform(int)", "int skin(int,int)",
        "int least(int,int)", "int cover(int,int)", "int soon(int)", "int clean()", "int bargain(int,int)",
        "int seen(int,int,boolean)", "int sets(int,int)", "int ask(int)", "int game(int,int,int,int)", "int rests(int,int)",
        "int odds(int,int)", "int shares(int,int)", "int owners(int)", "int wish(int)", "int all(int)", "int image()",
        "int back()", "int count(int)",
    };
    private static final String[] NOT_IN_THE_FILE = {
        "->", "::", "synchronized", "assert", "finally", "Exact", "catch", "package", "System.out", "Random", "Thread",
        "hashCode", "toString", "getMessage", "static {",
    };
    private static final int LONGEST_METHOD = 60;

    private static int wrong = 0;

    private static void check(String what, boolean holds) {
        if (!holds) {
            wrong++;
            System.out.println("not so: " + what);
        }
    }

    public static void main(String[] args) throws Exception {
        checkFace();
        checkClassesInside();
        checkFile();
        System.out.println(wrong == 0 ? "the face is as due" : wrong + " things are not as due");
        if (wrong != 0) System.exit(1);
    }

    private static void checkFace() throws Exception {
        Class<?> face = GuiltyShave.class;
        check("the class is public and final", Modifier.isPublic(face.getModifiers()) && Modifier.isFinal(face.getModifiers()));
        check("NONE", GuiltyShave.NONE == -1);
        check("HIDDEN", GuiltyShave.HIDDEN == -1000000);
        Set<String> shown = new TreeSet<>();
        Set<String> names = new TreeSet<>();
        for (Method m : face.getDeclaredMethods()) {
            if (Modifier.isPublic(m.getModifiers())) {
                List<String> kinds = new ArrayList<>();
                for (Class<?> kind : m.getParameterTypes()) kinds.add(kind.getName());
                shown.add(m.getReturnType().getName() + " " + m.getName() + "(" + String.join(",", kinds) + ")");
                names.add(m.getName());
                check(m.getName() + " is no static method", !Modifier.isStatic(m.getModifiers()));
            } else {
                check(m.getName() + " is private", Modifier.isPrivate(m.getModifiers()));
            }
        }
        check("the methods are " + shown, shown.equals(new TreeSet<>(Arrays.asList(METHODS))));
        Class<?>[] thrown = face.getMethod("person", int.class, int.class).getExceptionTypes();
        check("person throws", thrown.length == 1 && thrown[0] == java.util.NoSuchElementException.class);
        for (Field f : face.getDeclaredFields()) {
            boolean told = f.getName().equals("NONE") || f.getName().equals("HIDDEN");
            check(f.getName() + " is seen as due", told ? Modifier.isPublic(f.getModifiers()) : Modifier.isPrivate(f.getModifiers()));
            check(f.getName() + " is final, if static", !Modifier.isStatic(f.getModifiers()) || Modifier.isFinal(f.getModifiers()));
        }
        Constructor<?>[] made = face.getDeclaredConstructors();
        check("one public constructor", made.length == 1 && Modifier.isPublic(made[0].getModifiers()) && made[0].getParameterCount() == 0);
        for (Class<?> inside : face.getDeclaredClasses()) {
            for (Method m : inside.getDeclaredMethods()) {
                check(inside.getSimpleName() + "." + m.getName() + " has a name of its own", !names.contains(m.getName()));
                check(m.getName() + " takes seven at most", m.getParameterCount() <= 7);
            }
        }
        for (Method m : face.getDeclaredMethods()) {
            check(m.getName() + " has a name of its own", Modifier.isPublic(m.getModifiers()) || !names.contains(m.getName()));
        }
    }

    private static void checkClassesInside() {
        Class<?>[] inside = GuiltyShave.class.getDeclaredClasses();
        check("twelve classes at most", inside.length + 1 <= 12);
        for (Class<?> c : inside) {
            check(c.getSimpleName() + " is static", Modifier.isStatic(c.getModifiers()));
            check(c.getSimpleName() + " is not shown", !Modifier.isPublic(c.getModifiers()) && !Modifier.isProtected(c.getModifiers()));
            int fields = 0;
            for (Field f : c.getDeclaredFields()) {
                if (!Modifier.isStatic(f.getModifiers())) fields++;
                else check(c.getSimpleName() + "." + f.getName() + " is final", Modifier.isFinal(f.getModifiers()));
            }
            check(c.getSimpleName() + " has twenty fields at most", fields <= 20);
        }
    }

    private static void checkFile() throws Exception {
        List<String> lines = Files.readAllLines(Path.of("src/main/java/GuiltyShave.java"), StandardCharsets.ISO_8859_1);
        int began = -1;
        for (int i = 0; i < lines.size(); i++) {
            String line = lines.get(i);
            String where = "line " + (i + 1) + ": ";
            check(where + "signs below 128", line.chars().allMatch(c -> c < 128));
            String code = line.trim();
            if (code.startsWith("//") || code.startsWith("*") || code.startsWith("/*")) continue;
            for (String word : NOT_IN_THE_FILE) check(where + "no " + word, !line.contains(word));
            if (code.startsWith("import ")) {
                check(where + "an import", code.equals("import java.util.Arrays;") || code.equals("import java.util.NoSuchElementException;"));
            }
            if (code.endsWith("{") && code.contains("(") && code.matches("[a-zA-Z].*\\) *(throws .*)?\\{")
                    && !code.matches("(if|for|while|switch|else|do)\\b.*")) {
                began = i;
            }
            if (began >= 0 && code.equals("}")) check(where + "methods are short", i - began < LONGEST_METHOD || !isMethodEnd(line));
        }
    }

    private static boolean isMethodEnd(String line) {
        return line.equals("    }") || line.equals("        }");
    }
}
