import java.lang.management.ManagementFactory;
import java.lang.reflect.Constructor;
import java.lang.reflect.Field;
import java.lang.reflect.Method;
import java.lang.reflect.Modifier;
import java.nio.charset.StandardCharsets;
import java.nio.file.Files;
import java.nio.file.Path;
import java.util.Arrays;
import java.util.List;
import java.util.Set;
import java.util.TreeSet;
import java.util.regex.Matcher;
import java.util.regex.Pattern;

/** LANGUAGE.md as far as the source's words, the class's face and what it makes can tell. */
public final class LanguageTest {
    private static final Check CHECK = new Check();
    private static final List<String> FACE = Arrays.asList("boolean clock(int)", "boolean way(int,int,boolean,int)",
        "boolean rate(int,int,int)", "int book(int,int,int,int)", "int credit(int,int,int)", "int advise(int,int)",
        "boolean lose(int)", "int stop(int,int,int)", "int feed(int,int,int,int,int)", "int end(int)", "int text(int)",
        "int law()", "int show(int,int,int,int,int,boolean)", "int send(int,int)", "int shown(int,int)",
        "int paper(int,int)", "int comes(int,int,int)", "int settle(int)", "int settled(int,int)", "long due(int)",
        "long netted(int,int)", "int count(int)");

    public static void main(String[] args) throws Exception {
        String source = Files.readString(Path.of("src/main/java/NoteHouse.java"), StandardCharsets.US_ASCII);
        words(source.replaceAll("(?s)/\\*.*?\\*/", "").replaceAll("//[^\n]*", ""));
        lengthsOfMethods(source);
        face();
        classesInside();
        room();
        CHECK.end();
    }

    private static void words(String code) {
        String[] ruledOut = {"\\bthrow\\b", "\\btry\\b", "\\bcatch\\b", "\\bfinally\\b", "\\bsynchronized\\b",
            "\\bassert\\b", "\\binstanceof\\b", "->", "::", "\\bString\\.format\\b", "\\bHash", "\\bRandom\\b",
            "\\bThread\\b", "\\bFile", "currentTimeMillis", "nanoTime", "Exact\\b", "\\bpackage\\b", "\\bprotected\\b",
            "\\bvar\\b", "\\bprint", "static\\s*\\{", "\\.equals\\b", "\\.hashCode\\b", "\\.toString\\b", "while \\(true\\)"};
        for (String word : ruledOut) {
            CHECK.is("in the code: " + word, Pattern.compile(word).matcher(code).find(), false);
        }
        Matcher fills = Pattern.compile("Arrays\\.fill\\((\\w+)").matcher(code);
        while (fills.find()) {
            boolean ofNumbers = Pattern.compile("(int|long)\\[\\] " + fills.group(1) + "\\b").matcher(code).find();
            CHECK.is("fill of numbers: " + fills.group(1), ofNumbers, true);
        }
        Matcher imports = Pattern.compile("import ([^;]*);").matcher(code);
        while (imports.find()) {
            CHECK.is("import of " + imports.group(1), imports.group(1).equals("java.util.Arrays"), true);
        }
        Matcher library = Pattern.compile("\\b(Math|System|Arrays|Integer|Long)\\.(\\w+)").matcher(code);
        Set<String> known = Set.of("Math.abs", "Math.min", "Math.max", "System.arraycopy", "Arrays.fill");
        while (library.find()) {
            CHECK.is("use of " + library.group(), known.contains(library.group()), true);
        }
    }

    private static void lengthsOfMethods(String source) {
        String[] lines = source.split("\n");
        int start = -1;
        String indent = "";
        for (int k = 0; k < lines.length; k++) {
            Matcher head = Pattern.compile("^(    |        )\\S.*\\) \\{$").matcher(lines[k]);
            if (start < 0 && head.find() && !lines[k].contains(" class ")) {
                start = k;
                indent = head.group(1);
            } else if (start >= 0 && lines[k].equals(indent + "}")) {
                CHECK.is("lines above 60 of " + lines[start].trim(), Math.max(0, k - start + 1 - 60), 0);
                start = -1;
            }
        }
    }

    private static void face() {
        int mods = NoteHouse.class.getModifiers();
        CHECK.is("public and final", Modifier.isPublic(mods) && Modifier.isFinal(mods), true);
        Set<String> open = new TreeSet<>();
        Set<String> names = new TreeSet<>();
        for (Method m : NoteHouse.class.getDeclaredMethods()) {
            if (!Modifier.isPrivate(m.getModifiers())) {
                String params = Arrays.toString(m.getParameterTypes()).replaceAll("[\\[\\] ]", "");
                CHECK.is(m + " is public, not static", m.getModifiers(), Modifier.PUBLIC);
                open.add(m.getReturnType() + " " + m.getName() + "(" + params + ")");
                names.add(m.getName());
            }
        }
        CHECK.is("the face: " + open, open.equals(new TreeSet<>(FACE)), true);
        Constructor<?>[] makers = NoteHouse.class.getDeclaredConstructors();
        CHECK.is("one constructor", makers.length, 1);
        CHECK.is("public, of no parameters", Modifier.isPublic(makers[0].getModifiers())
            && makers[0].getParameterCount() == 0, true);
        for (Field f : NoteHouse.class.getDeclaredFields()) {
            boolean isNone = f.getName().equals("NONE");
            CHECK.is(f + " is private, NONE is not", Modifier.isPrivate(f.getModifiers()), !isNone);
            CHECK.is(f + ": static ones are final",
                !Modifier.isStatic(f.getModifiers()) || Modifier.isFinal(f.getModifiers()), true);
        }
        privateNames(NoteHouse.class, names);
        for (Class<?> c : NoteHouse.class.getDeclaredClasses()) {
            privateNames(c, names);
        }
    }

    private static void privateNames(Class<?> c, Set<String> faceNames) {
        int fields = 0;
        for (Method m : c.getDeclaredMethods()) {
            boolean isPublic = Modifier.isPublic(m.getModifiers());
            CHECK.is(m + " does not bear a public one's name", isPublic || !faceNames.contains(m.getName()), true);
            CHECK.is(m + ": at most seven parameters", m.getParameterCount() <= 7, true);
        }
        for (Field f : c.getDeclaredFields()) {
            fields += Modifier.isStatic(f.getModifiers()) ? 0 : 1;
        }
        CHECK.is(c + ": at most twenty fields", fields <= 20, true);
    }

    private static void classesInside() {
        Class<?>[] inside = NoteHouse.class.getDeclaredClasses();
        CHECK.is("at most twelve classes", inside.length + 1 <= 12, true);
        for (Class<?> c : inside) {
            int mods = c.getModifiers();
            CHECK.is(c + " is static", Modifier.isStatic(mods), true);
            CHECK.is(c + " is not open", Modifier.isPublic(mods) || Modifier.isProtected(mods), false);
        }
    }

    private static long made() {
        return ((com.sun.management.ThreadMXBean) ManagementFactory.getThreadMXBean())
            .getThreadAllocatedBytes(Thread.currentThread().getId());
    }

    /** What a run makes, by bytes: the object itself, and the most that 512 calls can ask for. */
    private static void room() {
        new NoteHouse();
        long ahead = made();
        NoteHouse x = new NoteHouse();
        long object = made() - ahead;
        CHECK.is("a new object, of bytes " + object, object < 30000, true);
        ahead = made();
        for (int k = 0; k < 30; k++) {
            x.book(20, 10000, 0, 2000);
        }
        for (int k = 0; k < 60; k++) {
            x.advise(0, k % 12);
            x.stop(0, -1, k % 12);
        }
        for (int k = 0; k < 200; k++) {
            x.show(0, k % 30, k % 20, 1, 0, true);
        }
        long kept = made() - ahead;
        CHECK.is("what is kept, of bytes " + kept, kept < 30000, true);
        ahead = made();
        for (int k = 0; k < 512; k++) {
            x.settle(3000);
            x.feed(0x70617920, 0x69662064, 0x61793E30, 0x3B61736B, 0x20202020);
            x.text(k % 12);
            x.law();
            x.rate(1, 1, 1);
        }
        long later = made() - ahead;
        CHECK.is("other calls, of bytes " + later, later < 8000, true);
    }
}
