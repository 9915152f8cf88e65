import java.io.IOException;
import java.lang.reflect.Method;
import java.lang.reflect.Modifier;
import java.net.URL;
import java.net.URLClassLoader;
import java.nio.charset.StandardCharsets;
import java.nio.file.Files;
import java.nio.file.Path;
import java.util.ArrayList;
import java.util.Arrays;
import java.util.List;
import java.util.Set;
import java.util.TreeSet;
import java.util.regex.Matcher;
import java.util.regex.Pattern;
import java.util.stream.Collectors;
import java.util.stream.Stream;
import javax.tools.ToolProvider;

/** README.md: its example answers what it says, its calls are the face, its way to run the tests runs all of them. */
public final class ReadmeTest {
    private static final Check CHECK = new Check();
    private static final Pattern TOLD = Pattern.compile("(house\\.(\\w+)\\((.*)\\));\\s*// (true|false|-?\\d+): \\S.*");
    private static final Pattern TEXT = Pattern.compile("// .*: (\\S.*)");
    private static final Path TESTS = Path.of("src/test/java");
    private static final Path SHARED_TESTS = Path.of("../shared/tests");

    public static void main(String[] args) throws Exception {
        String page = Files.readString(Path.of("README.md"), StandardCharsets.UTF_8);
        String use = chapter(page, "How to use it");
        String run = chapter(page, "How to run its tests");
        List<String> example = block(use, "java");
        answersOf(example);
        textsOf(example);
        callsOf(use, example);
        allTestsRun(run);
        CHECK.end();
    }

    private static String chapter(String page, String heading) {
        int start = page.indexOf("## " + heading + "\n");
        CHECK.is("a chapter: " + heading, start >= 0, true);
        int end = page.indexOf("\n## ", start + 1);
        return start < 0 ? "" : page.substring(start, end < 0 ? page.length() : end);
    }

    /** The lines of the one block of a language, but for empty ones. */
    private static List<String> block(String chapter, String language) {
        Matcher block = Pattern.compile("(?s)```" + language + "\n(.*?)```").matcher(chapter);
        CHECK.is("a block of " + language, block.find(), true);
        List<String> lines = Arrays.stream(block.group(1).split("\n")).filter(l -> !l.isBlank()).collect(Collectors.toList());
        CHECK.is("one block of " + language, block.find(), false);
        return lines;
    }

    private static void answersOf(List<String> example) throws Exception {
        List<String> wanted = new ArrayList<>();
        StringBuilder code = new StringBuilder("import java.util.*; public final class ReadmeExample {"
            + "public static List<String> answers() { List<String> answers = new ArrayList<>();\n");
        for (String line : example) {
            Matcher told = TOLD.matcher(line);
            if (told.matches()) {
                code.append("answers.add(String.valueOf(").append(told.group(1)).append("));\n");
                wanted.add(told.group(4));
            } else {
                CHECK.is("its answer is told: " + line, line.contains("house."), false);
                code.append(line).append('\n');
            }
        }
        List<?> got = made(code.append("return answers; } }").toString());
        CHECK.is("answers of the example", got.size(), wanted.size());
        CHECK.is("it makes calls", wanted.size() > 20, true);
        for (int k = 0; k < wanted.size(); k++) {
            boolean isSo = k < got.size() && got.get(k).equals(wanted.get(k));
            CHECK.is("answer " + k + " of the example, told as " + wanted.get(k), isSo, true);
        }
    }

    private static List<?> made(String code) throws Exception {
        Path folder = Files.createTempDirectory("readme");
        Path source = folder.resolve("ReadmeExample.java");
        Files.writeString(source, code);
        String ownClasses = System.getProperty("java.class.path");
        int exit = ToolProvider.getSystemJavaCompiler().run(null, null, null, "-cp", ownClasses, source.toString());
        CHECK.is("the example is compiled", exit, 0);
        List<?> answers = List.of();
        if (exit == 0) {
            try (URLClassLoader loader = new URLClassLoader(new URL[] {folder.toUri().toURL()})) {
                answers = (List<?>) loader.loadClass("ReadmeExample").getMethod("answers").invoke(null);
            }
        }
        for (String name : new String[] {"ReadmeExample.java", "ReadmeExample.class"}) {
            Files.deleteIfExists(folder.resolve(name));
        }
        Files.delete(folder);
        return answers;
    }

    /** A text that is told in a comment is what the feeds behind it put on the TAPE, up to blanks and zeros. */
    private static void textsOf(List<String> example) {
        String text = "";
        StringBuilder tape = new StringBuilder();
        int texts = 0;
        for (String line : example) {
            Matcher comment = TEXT.matcher(line);
            Matcher told = TOLD.matcher(line);
            if (comment.matches()) {
                text = comment.group(1);
                tape.setLength(0);
                texts++;
            } else if (told.matches() && told.group(2).equals("feed")) {
                tape.append(bytes(told.group(3)));
            } else if (told.matches() && (told.group(2).equals("text") || told.group(2).equals("law"))) {
                CHECK.is("the tape has: " + text, tape.toString().replaceAll("[\0 ]+$", "").equals(text), true);
            }
        }
        CHECK.is("a text and a law", texts, 2);
    }

    private static String bytes(String numbers) {
        StringBuilder text = new StringBuilder();
        for (String number : numbers.split(", ")) {
            int four = Integer.decode(number);
            for (int shift = 24; shift >= 0; shift -= 8) {
                text.append((char) (four >> shift & 255));
            }
        }
        return text.toString();
    }

    private static void callsOf(String use, List<String> example) {
        Set<String> face = new TreeSet<>();
        for (Method m : NoteHouse.class.getDeclaredMethods()) {
            if (Modifier.isPublic(m.getModifiers())) {
                face.add(m.getName());
            }
        }
        Set<String> called = new TreeSet<>();
        for (String line : example) {
            Matcher told = TOLD.matcher(line);
            if (told.matches()) {
                called.add(told.group(2));
            }
        }
        CHECK.is("the example makes each call: " + called, called.equals(face), true);
        List<String> rows = firstColumn(use).stream().flatMap(row -> Arrays.stream(row.replace("`", "").split(", ")))
            .collect(Collectors.toList());
        CHECK.is("each call is told of: " + rows, new TreeSet<>(rows).equals(face), true);
        CHECK.is("each call once", rows.size(), face.size());
    }

    /** Of the chapter's table, without its head. */
    private static List<String> firstColumn(String chapter) {
        List<String> column = new ArrayList<>();
        for (String line : chapter.split("\n")) {
            if (line.startsWith("| ")) {
                column.add(line.substring(2, line.indexOf(" |", 2)));
            }
        }
        CHECK.is("a table", column.size() > 1, true);
        return column.subList(Math.min(1, column.size()), column.size());
    }

    private static void allTestsRun(String run) throws Exception {
        List<String> commands = block(run, "sh");
        CHECK.is("one command", commands.size(), 1);
        CHECK.is("it can be run", Files.isExecutable(Path.of(commands.get(0))), true);
        List<String> listed = answerOf(commands.get(0) + " list");
        Set<String> own = filesUnder(TESTS, "public static void main(");
        Set<String> all = new TreeSet<>(own);
        all.addAll(filesUnder(SHARED_TESTS, ""));
        CHECK.is("all tests are run: " + listed, new TreeSet<>(listed).equals(all), true);
        CHECK.is("each once", listed.size(), all.size());
        Set<String> names = own.stream().map(f -> f.replaceAll(".*/|\\.java$", "")).collect(Collectors.toSet());
        List<String> table = firstColumn(run);
        CHECK.is("all of the project's own stand in the table: " + table, Set.copyOf(table).equals(names), true);
        CHECK.is("each in one row", table.size(), names.size());
    }

    private static List<String> answerOf(String command) throws Exception {
        Process process = new ProcessBuilder("sh", "-c", command).redirectErrorStream(true).start();
        String answer = new String(process.getInputStream().readAllBytes(), StandardCharsets.UTF_8);
        CHECK.is("exit of " + command, process.waitFor(), 0);
        return Arrays.asList(answer.trim().split("\n"));
    }

    /** The Java files, wherever they stand below a folder, that have these words. */
    private static Set<String> filesUnder(Path folder, String words) throws IOException {
        Set<String> found = new TreeSet<>();
        List<Path> files;
        try (Stream<Path> all = Files.walk(folder)) {
            files = all.filter(f -> f.toString().endsWith(".java")).collect(Collectors.toList());
        }
        for (Path file : files) {
            if (Files.readString(file, StandardCharsets.UTF_8).contains(words)) {
                found.add(file.toString());
            }
        }
        CHECK.is("tests under " + folder, found.isEmpty(), false);
        return found;
    }
}
