import java.lang.reflect.Constructor;
import java.lang.reflect.Field;
import java.lang.reflect.Member;
import java.lang.reflect.Method;
import java.lang.reflect.Modifier;
import java.nio.file.Files;
import java.nio.file.Path;
import java.util.Arrays;
import java.util.List;
import java.util.Set;
import java.util.TreeSet;

/** The public face, and the rules of LANGUAGE.md that can be seen from outside or in the text of the class. */
public final class FaceTests {
    private static final List<String> METHODS = List.of("type(long,int)", "tale()", "change(int,int,int)", "teller(int)", "spinner()",
            "memory(int)", "told(int,int)", "tells(int,int,int)", "yards(int,int)", "use(int,int,int)", "mind(int)", "count(int)",
            "evening(int,int,int,int)", "store(int,int,int)", "play(int,int,int,int,int)", "rests(int,int,int)", "image()", "restore()",
            "coat(int,int,int,int,int)", "read(int,int,int,int,int)", "untangle(int,int,int,int,int)", "tangle(int,int,int,int,int)",
            "passed(int,int,int,int,int,int,int)", "sheet(int,int,int)", "drop(int)", "item(int,int,int,long)", "copy(int,int,int,int,int)");
    private static final String[] CONSTANTS = {"BAD", "NOT", "FULL", "NONE", "NULL", "CAST", "INDEX", "SIZE"};
    private static final int[] VALUES = {-1, -2, -3, -4, -11, -12, -13, -14};
    private static int wrong = 0;

    private static void due(String what, Object got, Object want) {
        if (!got.equals(want)) {
            wrong++;
            System.out.println(what + ": " + got + ", due is " + want);
        }
    }

    private static String signature(Method m) {
        StringBuilder out = new StringBuilder(m.getName()).append("(");
        for (Class<?> p : m.getParameterTypes()) {
            if (out.charAt(out.length() - 1) != '(') out.append(",");
            out.append(p.getName());
        }
        return out.append(")").toString();
    }

    private static boolean isPrivate(Member m) {
        return Modifier.isPrivate(m.getModifiers()) || m.isSynthetic();
    }

    private static void theFace() throws Exception {
        Class<?> c = SpunTales.class;
        due("public and final", Modifier.isPublic(c.getModifiers()) && Modifier.isFinal(c.getModifiers()), true);
        Set<String> seen = new TreeSet<>();
        for (Method m : c.getDeclaredMethods()) {
            if (isPrivate(m)) continue;
            seen.add(signature(m));
            due(m.getName() + " is public and answers an int", Modifier.isPublic(m.getModifiers()) && !Modifier.isStatic(m.getModifiers())
                    && m.getReturnType() == int.class && m.getExceptionTypes().length == 0, true);
        }
        due("methods", seen, new TreeSet<>(METHODS));
        Set<String> fields = new TreeSet<>();
        for (Field f : c.getDeclaredFields()) if (!isPrivate(f)) fields.add(f.getName());
        due("fields", fields, new TreeSet<>(Arrays.asList(CONSTANTS)));
        for (int i = 0; i < CONSTANTS.length; i++) {
            Field f = c.getField(CONSTANTS[i]);
            due(CONSTANTS[i], f.getInt(null), VALUES[i]);
            due(CONSTANTS[i] + " is static and final", Modifier.isStatic(f.getModifiers()) && Modifier.isFinal(f.getModifiers()), true);
        }
        Constructor<?>[] made = c.getDeclaredConstructors();
        due("constructors", made.length, 1);
        due("the constructor", Modifier.isPublic(made[0].getModifiers()) && made[0].getParameterCount() == 0, true);
    }

    private static void theClassesInside() {
        Set<String> names = new TreeSet<>();
        for (String s : METHODS) names.add(s.substring(0, s.indexOf('(')));
        Class<?>[] inside = SpunTales.class.getDeclaredClasses();
        due("at most twelve classes", inside.length < 12, true);
        fewFields(SpunTales.class);
        for (Class<?> c : inside) {
            fewFields(c);
            due(c + " is static and not public", Modifier.isStatic(c.getModifiers()) && !Modifier.isPublic(c.getModifiers()), true);
            for (Method m : c.getDeclaredMethods()) {
                due(m + " bears a name of the face", names.contains(m.getName()), false);
                due(m + " has at most seven parameters", m.getParameterCount() <= 7, true);
            }
        }
        for (Method m : SpunTales.class.getDeclaredMethods()) {
            if (Modifier.isPrivate(m.getModifiers())) due(m + " bears a name of the face", names.contains(m.getName()), false);
            due(m + " has at most seven parameters", m.getParameterCount() <= 7, true);
        }
    }

    private static void fewFields(Class<?> c) {
        int fields = 0;
        for (Field f : c.getDeclaredFields()) {
            if (!Modifier.isStatic(f.getModifiers())) fields++;
            else due(f + " is final", Modifier.isFinal(f.getModifiers()), true);
        }
        due(c + " has at most twenty fields", fields <= 20, true);
    }

    private static void theText() throws Exception {
        String text = Files.readString(Path.of("src/main/java/SpunTales.java"));
        String[] never = {"import ", "package ", "catch", "try {", "throw", "finally", "->", "::", "synchronized", "assert ", "Exact(", "System.nano",
            "System.current", "System.out", "Random", "double", "float", "hashCode", "toString", "static {"};
        for (String word : never) due("the text has '" + word + "'", text.contains(word), false);
        for (char c : text.toCharArray()) if (c > 126) due("a sign", (int) c, "1 .. 126");
        int open = 0;
        int begun = 0;
        int line = 0;
        for (String row : text.split("\n")) {
            line++;
            if (row.matches(" {4}( {4})?(public|private|static|int|void|boolean).*\\(.*") && row.endsWith("{")) begun = line;
            if (row.matches(" {4}( {4})?\\}") && begun > 0) {
                due("the method at line " + begun + " has at most sixty lines", line - begun < 60, true);
                begun = 0;
                open++;
            }
        }
        due("methods were found", open > 50, true);
    }

    public static void main(String[] args) throws Exception {
        theFace();
        theClassesInside();
        theText();
        System.out.println(wrong == 0 ? "the face is as it should be" : wrong + " things are not as they should be");
        if (wrong != 0) System.exit(1);
    }
}
