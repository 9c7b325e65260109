import java.io.File;
import java.io.IOException;
import java.lang.reflect.Method;
import java.lang.reflect.Modifier;
import java.nio.file.Files;
import java.nio.file.Path;
import java.util.ArrayList;
import java.util.List;
import java.util.regex.Matcher;
import java.util.regex.Pattern;

/** What README.md says: its example is run, and its tables and names are compared with what there is. */
public final class ReadmeTest {
    private static final Pattern EXAMPLE = Pattern.compile("x\\.(\\w+)\\(([^)]*)\\);\\s*// (-?\\d+)(?::.*)?");
    private static final String[] REFUSALS = {"UNKNOWN", "OUTSIDE", "STATE", "ROOM", "NOT", "EARLY", "LATE", "DONE"};

    private static int wrong = 0;

    private static void hold(boolean holds, String what) {
        if (!holds) {
            wrong++;
            System.out.println("does not hold: " + what);
        }
    }

    public static void main(String[] args) throws Exception {
        String text = Files.readString(Path.of("README.md"));
        example(text);
        calls(text);
        refusals(text);
        tests(text);
        System.out.println(wrong == 0 ? "README.md holds" : wrong + " things in README.md do not hold");
        if (wrong != 0) {
            System.exit(1);
        }
    }

    private static void example(String text) throws Exception {
        Matcher block = Pattern.compile("(?s)```java\\n(.*?)```").matcher(text);
        hold(block.find(), "there is an example");
        List<String> lines = block.group(1).lines().toList();
        hold(lines.get(0).equals("FaultEvidence x = new FaultEvidence();"), "the example begins with a new object");
        FaultEvidence x = new FaultEvidence();
        for (String line : lines.subList(1, lines.size())) {
            Matcher call = EXAMPLE.matcher(line);
            hold(call.matches(), "a call and its answer: " + line);
            if (call.matches()) {
                long got = answer(x, call.group(1), call.group(2));
                hold(got == Long.parseLong(call.group(3)), line + " (it answered " + got + ")");
            }
        }
    }

    private static long answer(FaultEvidence x, String name, String numbers) throws Exception {
        List<String> args = numbers.isEmpty() ? List.of() : List.of(numbers.split(", "));
        for (Method m : FaultEvidence.class.getMethods()) {
            if (m.getName().equals(name) && m.getParameterCount() == args.size()) {
                List<Object> values = new ArrayList<>();
                for (int i = 0; i < args.size(); i++) {
                    long v = args.get(i).equals("FaultEvidence.NONE") ? FaultEvidence.NONE : Long.parseLong(args.get(i));
                    values.add(m.getParameterTypes()[i] == long.class ? (Object) v : (Object) (int) v);
                }
                return ((Number) m.invoke(x, values.toArray())).longValue();
            }
        }
        throw new IllegalStateException("no such call: " + name);
    }

    /** Each method of the class stands in the table of calls, and nothing else does. */
    private static void calls(String text) {
        List<String> told = new ArrayList<>();
        Matcher rows = Pattern.compile("(?m)^\\| ((?:`[a-z]+`(?:, )?)+) \\|").matcher(text);
        while (rows.find()) {
            told.addAll(List.of(rows.group(1).replace("`", "").split(", ")));
        }
        List<String> there = new ArrayList<>();
        for (Method m : FaultEvidence.class.getDeclaredMethods()) {
            if (Modifier.isPublic(m.getModifiers())) {
                there.add(m.getName());
            }
        }
        told.sort(null);
        there.sort(null);
        hold(told.equals(there), "the calls are " + there + ", told are " + told);
    }

    private static void refusals(String text) throws Exception {
        int at = 0;
        for (String name : REFUSALS) {
            String row = "\n| `" + name + "` | " + FaultEvidence.class.getField(name).getInt(null) + " |";
            hold(text.indexOf(row) > at, name + " stands in the table, in its order");
            at = Math.max(at, text.indexOf(row));
        }
    }

    private static void tests(String text) throws IOException {
        List<String> told = new ArrayList<>();
        Matcher names = Pattern.compile("(?m)^- `(\\w+Test)`:").matcher(text);
        while (names.find()) {
            told.add(names.group(1) + ".java");
        }
        List<String> there = new ArrayList<>();
        for (File file : new File("src/test/java").listFiles()) {
            there.add(file.getName());
        }
        told.sort(null);
        there.sort(null);
        hold(told.equals(there), "the tests are " + there + ", told are " + told);
    }
}
