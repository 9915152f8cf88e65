import java.io.PrintWriter;
import java.io.StringWriter;
import java.util.ArrayList;
import java.util.List;
import java.util.Map;
import java.util.Set;
import java.util.TreeMap;
import java.util.TreeSet;
import java.util.regex.Matcher;
import java.util.regex.Pattern;
import java.util.spi.ToolProvider;

/** LANGUAGE.md by the compiled class, as javap tells it: which method calls which, how deep, and what of the library. */
public final class CallsTest {
    private static final Check CHECK = new Check();
    private static final int DEEPEST = 8;
    private static final Pattern HEAD = Pattern.compile("  (?:\\S.* )?([\\w$]+)\\(.*\\);");
    private static final Pattern CALL = Pattern.compile("\\s+\\d+: invoke\\w+ .*// Method ([^:]*):.*");
    private static final Pattern STEP = Pattern.compile("\\s+\\d+: (\\w+).*");
    private static final Set<String> LIBRARY = Set.of("java/lang/Object.<init>", "java/lang/String.length",
        "java/lang/String.charAt", "java/lang/Math.abs", "java/lang/Math.min", "java/lang/System.arraycopy",
        "java/util/Arrays.fill");
    private static final Set<String> RULED_OUT = Set.of("athrow", "invokedynamic", "invokeinterface", "monitorenter",
        "monitorexit", "checkcast", "instanceof", "multianewarray", "putstatic", "jsr", "ret");

    private final Map<String, Set<String>> calls = new TreeMap<>();

    private CallsTest() {
    }

    public static void main(String[] args) {
        CallsTest test = new CallsTest();
        test.read(NoteHouse.class);
        for (Class<?> inside : NoteHouse.class.getDeclaredClasses()) {
            test.read(inside);
        }
        test.libraryAlone();
        test.depths();
        CHECK.end();
    }

    private void read(Class<?> of) {
        StringWriter told = new StringWriter();
        ToolProvider javap = ToolProvider.findFirst("javap").orElseThrow();
        int exit = javap.run(new PrintWriter(told), new PrintWriter(told), "-c", "-p", "-cp",
            System.getProperty("java.class.path"), of.getName());
        CHECK.is("javap of " + of.getName(), exit, 0);
        String name = "";
        int methods = 0;
        for (String line : told.toString().split("\n")) {
            Matcher head = HEAD.matcher(line);
            Matcher call = CALL.matcher(line);
            Matcher step = STEP.matcher(line);
            if (head.matches()) {
                boolean isConstructor = head.group(1).equals(of.getName());
                name = of.getName() + "." + (isConstructor ? "<init>" : head.group(1));
                CHECK.is("one method of this name: " + name, calls.put(name, new TreeSet<>()) == null, true);
                methods++;
            } else if (call.matches()) {
                calls.get(name).add(whole(of, call.group(1).replace("\"", "")));
            }
            if (step.matches()) {
                CHECK.is(name + " has " + step.group(1), RULED_OUT.contains(step.group(1)), false);
            }
        }
        int written = of.getDeclaredMethods().length + of.getDeclaredConstructors().length;
        CHECK.is("methods of " + of.getName(), methods, written);
    }

    /** javap leaves out the class of a method of the same class. */
    private static String whole(Class<?> of, String called) {
        return called.contains(".") ? called : of.getName() + "." + called;
    }

    private void libraryAlone() {
        calls.forEach((method, called) -> {
            for (String one : called) {
                CHECK.is(method + " calls " + one, calls.containsKey(one) || LIBRARY.contains(one), true);
            }
        });
    }

    private void depths() {
        for (String method : calls.keySet()) {
            List<String> deepest = deepestFrom(method, new ArrayList<>());
            CHECK.is("at most " + DEEPEST + " deep: " + deepest, deepest.size() <= DEEPEST, true);
        }
    }

    /** The longest chain of calls that begins with a method; one that comes back to itself is told as far too long. */
    private List<String> deepestFrom(String method, List<String> open) {
        List<String> chain = new ArrayList<>(open);
        chain.add(method);
        CHECK.is("calls itself: " + chain, open.contains(method), false);
        List<String> deepest = chain;
        if (!open.contains(method)) {
            for (String called : calls.getOrDefault(method, Set.of())) {
                List<String> found = deepestFrom(called, chain);
                deepest = found.size() > deepest.size() ? found : deepest;
            }
        }
        return deepest;
    }
}
