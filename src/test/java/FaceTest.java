import java.lang.reflect.Constructor;
import java.lang.reflect.Field;
import java.lang.reflect.Method;
import java.lang.reflect.Modifier;
import java.nio.file.Files;
import java.nio.file.Path;
import java.util.Set;
import java.util.TreeSet;

/** The public face of the document, and the rules of LANGUAGE.md that can be seen from outside or from single words. */
public final class FaceTest {
    private static final String[] METHODS = {
        "int feed(long,int)", "int model()", "int fault()", "int seed(long)", "int count(int)",
        "int holds(int,int,int)", "int value(int,int,int)", "int goes(int,int)",
        "long exact(int,int)", "long sum(int,int)", "int reached()",
        "int block(int,int,int)", "int told(int)", "int both(int,int,int,int,int)",
        "int ends(int,int,int,int)", "long misses(int,int,int)", "int test(int,int,int,int,int,int)",
        "int split(int,int,int,int,int,int)", "int moves(int)"};

    public static void main(String[] args) throws Exception {
        Due due = new Due("FaceTest");
        due.is("NONE", ChanceRuns.NONE, -1);
        due.is("BAD", ChanceRuns.BAD, -2);
        due.is("STATE", ChanceRuns.STATE, -3);
        due.is("FULL", ChanceRuns.FULL, -4);
        due.is("public final", ChanceRuns.class.getModifiers(), Modifier.PUBLIC | Modifier.FINAL);
        methods(due);
        fieldsAndConstructors(due);
        words(due);
        due.end();
    }

    private static void methods(Due due) {
        Set<String> wanted = new TreeSet<>(Set.of(METHODS));
        Set<String> publicNames = new TreeSet<>();
        for (Method m : ChanceRuns.class.getDeclaredMethods()) {
            if (Modifier.isPrivate(m.getModifiers())) {
                continue;
            }
            publicNames.add(m.getName());
            due.is("public: " + m, m.getModifiers(), Modifier.PUBLIC);
            due.is("in the document: " + m, wanted.remove(signature(m)) ? 1 : 0, 1);
        }
        due.is("missing " + wanted, wanted.size(), 0);
        due.is("nested classes", ChanceRuns.class.getDeclaredClasses().length <= 12 ? 1 : 0, 1);
        privateNames(due, ChanceRuns.class, publicNames);
        for (Class<?> c : ChanceRuns.class.getDeclaredClasses()) {
            due.is("static: " + c, Modifier.isStatic(c.getModifiers()) ? 1 : 0, 1);
            privateNames(due, c, publicNames);
        }
    }

    private static void privateNames(Due due, Class<?> c, Set<String> publicNames) {
        for (Method m : c.getDeclaredMethods()) {
            if (c != ChanceRuns.class || Modifier.isPrivate(m.getModifiers())) {
                due.is("name of its own: " + m, publicNames.contains(m.getName()) ? 1 : 0, 0);
            }
            due.is("seven parameters at most: " + m, m.getParameterCount() <= 7 ? 1 : 0, 1);
        }
    }

    private static String signature(Method m) {
        StringBuilder s = new StringBuilder();
        s.append(m.getReturnType()).append(' ').append(m.getName()).append('(');
        for (Class<?> p : m.getParameterTypes()) {
            s.append(s.charAt(s.length() - 1) == '(' ? "" : ",").append(p);
        }
        return s.append(')').toString();
    }

    private static void fieldsAndConstructors(Due due) {
        Set<String> constants = Set.of("NONE", "BAD", "STATE", "FULL");
        for (Field f : ChanceRuns.class.getDeclaredFields()) {
            boolean isPublic = Modifier.isPublic(f.getModifiers());
            due.is("field " + f, isPublic == constants.contains(f.getName()) ? 1 : 0, 1);
            due.is("hidden " + f, isPublic || Modifier.isPrivate(f.getModifiers()) ? 1 : 0, 1);
            due.is("static and final " + f, !Modifier.isStatic(f.getModifiers()) || Modifier.isFinal(f.getModifiers()) ? 1 : 0, 1);
        }
        Constructor<?>[] made = ChanceRuns.class.getDeclaredConstructors();
        due.is("constructors", made.length, 1);
        due.is("its parameters", made[0].getParameterCount(), 0);
        due.is("public constructor", made[0].getModifiers(), Modifier.PUBLIC);
    }

    private static void words(Due due) throws Exception {
        String source = Files.readString(Path.of("src/main/java/ChanceRuns.java"));
        String code = source.replaceAll("(?s)/\\*.*?\\*/", "").replaceAll("//[^\n]*", "")
            .replaceAll("\"[^\"\n]*\"", "\"\"");
        for (String word : new String[] {"throw", "try", "catch", "synchronized", "assert", "protected", "Object",
                "Random", "System.currentTimeMillis", "System.nanoTime", "Thread", "hashCode", "toString"}) {
            boolean there = code.matches("(?s).*\\b" + word.replace(".", "\\.") + "\\b.*");
            due.is("word " + word, there ? 1 : 0, 0);
        }
        due.is("arrows and ::", code.contains("->") || code.contains("::") ? 1 : 0, 0);
        due.is("package line", code.trim().startsWith("package") ? 1 : 0, 0);
        for (String line : code.split("\n")) {
            if (line.startsWith("import")) {
                due.is(line, line.trim().equals("import java.util.Arrays;") ? 1 : 0, 1);
            }
        }
    }
}
