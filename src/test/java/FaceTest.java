import java.io.IOException;
import java.lang.reflect.Constructor;
import java.lang.reflect.Field;
import java.lang.reflect.Method;
import java.lang.reflect.Modifier;
import java.nio.file.Files;
import java.nio.file.Path;
import java.util.LinkedHashSet;
import java.util.Map;
import java.util.Set;
import java.util.TreeMap;
import java.util.TreeSet;
import java.util.regex.Matcher;
import java.util.regex.Pattern;

/** The public face of the class, and those rules of LANGUAGE.md that can be seen from outside or in single words. */
public final class FaceTest {
    private static final Set<String> METHODS = Set.of(
        "int node(long)", "long add(int,long)", "int next()", "long set(int,long)",
        "int vote(int,int,int,int,int)", "int may(int,int,int,int,int)", "long accuse(int,int,int,int)",
        "long about(int)", "long holds(int,int)", "int said(int,int)", "long weight(int,int)",
        "long backed(int,int,int,int)", "int certain(int,int)", "int breaks(int,int)",
        "int broken(int,int,int,int)", "int named(int)", "long taken(int,int)");
    private static final String[] CONSTANTS = {"NONE", "UNKNOWN", "OUTSIDE", "STATE", "ROOM", "NOT", "EARLY", "LATE", "DONE"};
    private static final int[] VALUES = {-1, -101, -102, -103, -104, -105, -106, -107, -108};

    private static int wrong = 0;

    private static void hold(boolean holds, String what) {
        if (!holds) {
            wrong++;
            System.out.println("does not hold: " + what);
        }
    }

    public static void main(String[] args) throws Exception {
        hold(Modifier.isPublic(FaultEvidence.class.getModifiers()), "the class is public");
        hold(Modifier.isFinal(FaultEvidence.class.getModifiers()), "the class is final");
        methods();
        constants();
        constructors();
        classesInside();
        staticFields();
        sizes();
        source();
        System.out.println(wrong == 0 ? "the face is as told" : wrong + " things are not as told");
        if (wrong != 0) {
            System.exit(1);
        }
    }

    private static void methods() {
        Set<String> open = new TreeSet<>();
        Set<String> names = new TreeSet<>();
        for (Method m : FaultEvidence.class.getDeclaredMethods()) {
            if (!Modifier.isPrivate(m.getModifiers())) {
                open.add(signature(m));
                names.add(m.getName());
                hold(Modifier.isPublic(m.getModifiers()) && !Modifier.isStatic(m.getModifiers()), signature(m) + " is a public method of objects");
            }
            hold(m.getParameterCount() <= 7, m.getName() + " has at most seven parameters");
        }
        hold(open.equals(new TreeSet<>(METHODS)), "the methods are those of the document: " + open);
        for (Method m : FaultEvidence.class.getDeclaredMethods()) {
            hold(!Modifier.isPrivate(m.getModifiers()) || !names.contains(m.getName()), m.getName() + " is not also private");
        }
    }

    private static String signature(Method m) {
        StringBuilder text = new StringBuilder(m.getReturnType() + " " + m.getName() + "(");
        for (int i = 0; i < m.getParameterCount(); i++) {
            text.append(i == 0 ? "" : ",").append(m.getParameterTypes()[i]);
        }
        return text.append(")").toString();
    }

    private static void constants() throws Exception {
        int open = 0;
        for (Field f : FaultEvidence.class.getDeclaredFields()) {
            int mods = f.getModifiers();
            open += Modifier.isPrivate(mods) ? 0 : 1;
            hold(!Modifier.isStatic(mods) || Modifier.isFinal(mods), "static field " + f.getName() + " is final");
        }
        hold(open == CONSTANTS.length, "no field but the constants is open");
        for (int i = 0; i < CONSTANTS.length; i++) {
            Field f = FaultEvidence.class.getField(CONSTANTS[i]);
            hold(f.getType() == int.class && Modifier.isStatic(f.getModifiers()), CONSTANTS[i] + " is an int constant");
            hold(f.getInt(null) == VALUES[i], CONSTANTS[i] + " is " + VALUES[i]);
        }
    }

    private static void constructors() {
        Constructor<?>[] all = FaultEvidence.class.getDeclaredConstructors();
        hold(all.length == 1 && all[0].getParameterCount() == 0 && Modifier.isPublic(all[0].getModifiers()), "one constructor, public, without parameters");
    }

    private static void classesInside() {
        for (Class<?> c : FaultEvidence.class.getDeclaredClasses()) {
            int mods = c.getModifiers();
            hold(Modifier.isStatic(mods) && !Modifier.isPublic(mods) && !Modifier.isProtected(mods), c.getName() + " is static and not open");
        }
    }

    private static void staticFields() {
        Set<Class<?>> types = Set.of(int.class, long.class, boolean.class, char.class, String.class,
            int[].class, long[].class, char[].class, byte[].class);
        for (Class<?> c : classes()) {
            for (Field f : c.getDeclaredFields()) {
                boolean isStatic = Modifier.isStatic(f.getModifiers());
                hold(!isStatic || Modifier.isFinal(f.getModifiers()) && types.contains(f.getType()), "static field " + f.getName() + " is a constant");
            }
        }
    }

    private static Set<Class<?>> classes() {
        Set<Class<?>> all = new LinkedHashSet<>(Set.of(FaultEvidence.class.getDeclaredClasses()));
        all.add(FaultEvidence.class);
        return all;
    }

    private static void sizes() {
        hold(classes().size() <= 12, "at most twelve classes");
        for (Class<?> c : classes()) {
            int fields = 0;
            for (Field f : c.getDeclaredFields()) {
                fields += Modifier.isStatic(f.getModifiers()) ? 0 : 1;
            }
            hold(fields <= 20, c.getName() + " has at most twenty fields");
            for (Constructor<?> made : c.getDeclaredConstructors()) {
                hold(made.getParameterCount() <= 7, c.getName() + " is made of at most seven parameters");
            }
        }
    }

    private static void source() throws IOException {
        String text = Files.readString(Path.of("src/main/java/FaultEvidence.java"));
        String code = text.replaceAll("(?s)/\\*.*?\\*/", " ").replaceAll("//[^\n]*", " ");
        words(code);
        Map<String, String> bodies = bodies(code);
        hold(bodies.keySet().containsAll(Set.of("vote", "named", "take")), "the methods are found in the source");
        for (String name : bodies.keySet()) {
            hold(bodies.get(name).lines().count() <= 60, name + " has at most sixty lines");
            int depth = depth(name, bodies, 0);
            hold(depth <= 8, name + " has calls at most eight deep and none of itself");
        }
    }

    private static void words(String code) {
        Matcher words = Pattern.compile("\\b(throw|throws|try|catch|synchronized|assert|package|float|double|System|Object|equals|hashCode|toString|[a-z]\\w*Exact)\\b|->|::").matcher(code);
        while (words.find()) {
            hold(false, "the source is without " + words.group());
        }
        Matcher imports = Pattern.compile("\\bimport\\s+([^;]+);").matcher(code);
        while (imports.find()) {
            hold(Set.of("java.util.ArrayList", "java.util.List", "java.util.Arrays").contains(imports.group(1)), "import " + imports.group(1));
        }
        hold(!Pattern.compile("\\bstatic\\s*\\{").matcher(code).find(), "no static initialiser");
    }

    /** The methods of the outer class by name, each up to the brace that stands as far in as its first line. */
    private static Map<String, String> bodies(String code) {
        Map<String, String> all = new TreeMap<>();
        Matcher heads = Pattern.compile("(?ms)^    (?:public|private) (?:static )?\\w+ (\\w+)\\([^)]*\\) \\{\\n(.*?)^    \\}").matcher(code);
        while (heads.find()) {
            hold(all.put(heads.group(1), heads.group(2)) == null, "one method is called " + heads.group(1));
        }
        return all;
    }

    private static int depth(String name, Map<String, String> bodies, int above) {
        if (above > 20) {
            return above;
        }
        int deepest = 1;
        Matcher calls = Pattern.compile("(?<![.\\w])(\\w+)\\(").matcher(bodies.get(name));
        while (calls.find()) {
            if (bodies.containsKey(calls.group(1))) {
                deepest = Math.max(deepest, 1 + depth(calls.group(1), bodies, above + 1));
            }
        }
        return deepest;
    }
}
