import java.io.IOException;
import java.io.UncheckedIOException;
import java.lang.reflect.Method;
import java.nio.charset.StandardCharsets;
import java.nio.file.Files;
import java.nio.file.Path;
import java.util.ArrayList;
import java.util.Arrays;
import java.util.Collections;
import java.util.List;
import java.util.regex.Matcher;
import java.util.regex.Pattern;

/** What the document says ahead of its Terms (what it is, the public face) and behind its Promises (not promised). */
final class FrameBounds {
    private static final String WHAT = "What it is";
    private static final String FACE = "The public face";
    private static final String NOT = "Not promised";

    private FrameBounds() {
    }

    static void ahead(Sentences s) {
        s.of(WHAT, "A house of circular notes: books of leaves and letters of credit that travellers show in towns,",
            FrameBounds::papersShown);
        s.of(WHAT, "agents who pay, refuse or ask by texts they hold,", FrameBounds::agents);
        s.of(WHAT, "specimens of signatures and stops that travel by posts and wires with their days,", FrameBounds::travels);
        s.of(WHAT, "rates of the day and town;", FrameBounds::rates);
        s.of(WHAT, "the house settles what it knows of:", FrameBounds::whatIsKnown);
        s.of(WHAT, "which payments were good, which were made against a stop, on a forged hand, twice, or beyond a limit,",
            FrameBounds::kinds);
        s.of(WHAT, "who bears them by its law,", FrameBounds::bearers);
        s.of(WHAT, "and what is paid to whom in each coin. ==== I.", FrameBounds::gifts);
        s.of(WHAT, "An object is used for at most 512 calls after it has been made;", FrameBounds::all512Calls);
        s.of(WHAT, "what later calls answer is free.", FrameBounds::callsBehind512);
        String face = s.restOf(FACE);
        s.of(FACE, face, c -> theFace(c, face));
    }

    static void behind(Sentences s) {
        s.of(NOT, "How the state is held inside the object is free, as are the speed of each call, "
            + "the text of toString and the behaviour of equals and hashCode.", FrameBounds::nothingOfObjects);
        s.of(NOT, "Use of one object from several threads at once is not promised to be safe.", FrameBounds::oneByEachThread);
        s.of(NOT, "Nothing is promised beyond the answers and state changes described above,", FrameBounds::asking);
        s.of(NOT, "and nothing about an object after its 512th call.", FrameBounds::another);
    }

    /**
     * One journey. TOWN 1 has a careful agent and TOWN 2 one that always pays, both of coin 1; from TOWN 3 no LETTER
     * comes. SHOWN 1 is good, 2 twice, 3 good, 4 against a stop, 5 forged, 6 beyond the limit; 0, 7 and 8 are not settled.
     */
    private static House journey() {
        House x = new House();
        x.post(0, 1, 3);
        x.post(1, 2, 2);
        x.wire(0, 2, 1);
        x.rate(1, 1, 1500);
        x.rate(2, 1, 700);
        x.book(2, 100, 12345, 30);
        x.credit(500, 54321, 30);
        x.agent(1, "refuse if stopped=1;pay if hand<4;ask");
        x.agent(2, "pay");
        x.agent(3, "pay");
        x.advise(0, 1);
        x.advise(1, 1);
        x.show(1, 0, 0, 0, 12345, true);
        x.clock(3);
        x.show(1, 0, 0, 0, 12345, true);
        x.show(1, 0, 0, 0, 12347, true);
        x.stop(0, 1, 0);
        x.show(1, 1, -1, 400, 54321, true);
        x.rate(1, 1, 9000);
        x.clock(4);
        x.show(2, 0, 1, 0, 12345, true);
        x.show(2, 1, -1, 100, 99999, true);
        x.show(2, 1, -1, 101, 54321, false);
        x.clock(6);
        x.show(1, 0, 1, 0, 12345, true);
        x.show(3, 1, -1, 50, 54321, true);
        x.send(2, 240);
        x.send(3, 5);
        return x;
    }

    private static void row(Check c, House x, int what, long... due) {
        for (int k = 0; k < due.length; k++) {
            c.is("shown " + k + ", what " + what, x.shown(k, what), due[k]);
        }
    }

    private static void papersShown(Check c) {
        House x = journey();
        row(c, x, 0, 1, 1, 1, 1, 2, 2, 2, 1, 3, -1);
        row(c, x, 1, 0, 0, 0, 1, 0, 1, 1, 0, 1, -1);
        row(c, x, 2, 0, 0, 0, -1, 1, -1, -1, 1, -1, -1);
        row(c, x, 3, 100, 100, 100, 400, 100, 100, 101, 100, 50, -1);
        c.is("noted on the credit", x.paper(1, 3), 550);
    }

    private static void agents(Check c) {
        House x = journey();
        row(c, x, 4, 2, 0, 0, 0, 0, 0, 0, 1, 0, -1);
        row(c, x, 5, 2, 1, 1, 1, 0, 0, 0, 0, 0, -1);
    }

    private static void travels(Check c) {
        House x = journey();
        c.is("the specimen comes by the post", x.comes(0, 0, 1), 3);
        c.is("the stop comes by the wire", x.comes(1, 0, 2), 4);
        c.is("the stop comes by wire and post, or by post", x.comes(1, 0, 1), 6);
        c.is("the stop never comes", x.comes(1, 0, 3), -1);
        row(c, x, 8, -1, 6, 6, 6, 9, 9, 9, -1, -1, -1);
    }

    private static void rates(Check c) {
        row(c, journey(), 6, 0, 150, 150, 600, 70, 70, 70, 0, 50, -1);
    }

    private static void whatIsKnown(Check c) {
        House x = journey();
        long[] known = {0, 0, 3, 3, 3, 6, 6};
        for (int day = 4; day <= 10; day++) {
            c.is("settled as known on day " + day, x.settle(day), known[day - 4]);
        }
    }

    private static void kinds(Check c) {
        House x = journey();
        x.settle(9);
        long[] kinds = {-1, 0, 3, 0, 1, 2, 4, -1, -1};
        for (int k = 0; k < kinds.length; k++) {
            c.is("kind of " + k, x.settled(k, 0), kinds[k]);
        }
    }

    private static void bearers(Check c) {
        House x = journey();
        x.settle(9);
        long[] plain = {-1, 150, 150, 600, 0, 0, 35, -1, -1};
        for (int k = 0; k < plain.length; k++) {
            c.is("without a law the house bears of " + k, x.settled(k, 1), plain[k]);
        }
        x.law("twice town;forged half;stopped house");
        x.settle(9);
        long[] told = {-1, 150, 0, 600, 70, 35, 35, -1, -1};
        for (int k = 0; k < told.length; k++) {
            c.is("by the law the house bears of " + k, x.settled(k, 1), told[k]);
        }
    }

    private static void gifts(Check c) {
        House x = journey();
        x.law("twice town;forged half;stopped house");
        x.settle(9);
        long[] dues = {0, 750, -100, -5, 0};
        for (int t = 0; t < dues.length; t++) {
            c.is("due to " + t, x.due(t), dues[t]);
        }
        long[][] gifts = {{3, 12, 5, 0}, {2, 1, 100, 1}, {12, 1, 650, 1}, {-1, -1, -1, -1}};
        for (int k = 0; k < gifts.length; k++) {
            for (int what = 0; what < 4; what++) {
                c.is("gift " + k + ", what " + what, x.netted(k, what), gifts[k][what]);
            }
        }
    }

    /** As much as a house can hold, then one more of each, up to the 512th call. */
    private static void all512Calls(Check c) {
        House x = new House();
        x.agent(0, "pay");
        for (int k = 0; k <= 30; k++) {
            c.is("paper " + k, x.credit(100000, 0, 1), k < 30 ? k : -1);
        }
        for (int k = 0; k <= 60; k++) {
            c.is("advice " + k, x.advise(29, 11), k < 60 ? k : -1);
            c.is("stop " + k, x.stop(29, -1, 11), k < 60 ? k : -1);
        }
        for (int k = 0; k <= 200; k++) {
            c.is("shown " + k, x.showCredit(0, 28, 1), k < 200 ? 0 : -1);
        }
        for (int k = x.answers().size(); k < House.MOST_CALLS - 4; k++) {
            c.is("shown " + k, x.shown(k - 320, 7), 0);
        }
        c.is("settled", x.settle(0), 200);
        c.is("due", x.due(0), 200);
        c.is("netted", x.netted(0, 2), 200);
        c.is("the 512th call", x.settled(199, 1), 1);
        c.is("calls", x.answers().size(), 512);
    }

    /** Free are the answers, but LANGUAGE.md lets no call throw in any state. */
    private static void callsBehind512(Check c) {
        NoteHouse x = new NoteHouse();
        int[] wild = {Integer.MIN_VALUE, -1, 0, 1, 11, 12, 60, 200, 300, Integer.MAX_VALUE};
        int calls = 0;
        for (int round = 0; round < 300; round++) {
            int a = wild[round % wild.length];
            int b = wild[round * 3 % 7];
            calls += eachCall(x, a, b);
            calls += eachCall(x, round % 12, round % 3);
        }
        c.is("calls have ended", calls, 600 * 22);
    }

    private static int eachCall(NoteHouse x, int a, int b) {
        x.clock(a);
        x.way(a, b, a > b, a);
        x.rate(a, b, a);
        x.book(a, b, a, a);
        x.credit(a, b, a);
        x.advise(b, a);
        x.lose(a);
        x.stop(b, a, a);
        x.feed(0x7061793B, 0x61736B3B, 0x70617920, 0x6966206C, 0x6566743E + a);
        x.end(a);
        x.text(a);
        x.law();
        x.show(a, b, a, a, b, true);
        x.send(a, 1000000);
        x.shown(a, b);
        x.paper(a, b);
        x.comes(b, a, a);
        x.settle(a);
        x.settled(a, b);
        x.due(a);
        x.netted(a, b);
        x.count(a);
        return 22;
    }

    /** Each line of the document's face stands in the source to the letter, and nothing else is public. */
    private static void theFace(Check c, String face) {
        String source = source();
        Matcher lines = Pattern.compile("public [^;{]*(\\{|;)").matcher(face);
        List<String> promised = new ArrayList<>();
        while (lines.find()) {
            String line = lines.group();
            boolean isCall = line.endsWith(");");
            String inSource = isCall ? line.substring(0, line.length() - 1) + " {" : line;
            promised.add(inSource);
            c.is("stands in the source: " + inSource, source.contains(inSource), true);
        }
        c.is("a class, a constant, a constructor, calls", promised.size(), 25);
        List<String> written = new ArrayList<>();
        Matcher open = Pattern.compile("(?m)^\\s*(public .*)$").matcher(source);
        while (open.find()) {
            written.add(open.group(1));
        }
        Collections.sort(promised);
        Collections.sort(written);
        c.is("all that is public: " + written, written.equals(promised), true);
    }

    private static String source() {
        try {
            return Files.readString(Path.of("src/main/java/NoteHouse.java"), StandardCharsets.UTF_8);
        } catch (IOException e) {
            throw new UncheckedIOException(e);
        }
    }

    private static void nothingOfObjects(Check c) {
        List<String> free = Arrays.asList("toString", "equals", "hashCode");
        for (Class<?> of : NoteHouse.class.getDeclaredClasses()) {
            for (Method m : of.getDeclaredMethods()) {
                c.is("LANGUAGE.md rules it out: " + m, free.contains(m.getName()), false);
            }
        }
        for (Method m : NoteHouse.class.getDeclaredMethods()) {
            c.is("LANGUAGE.md rules it out: " + m, free.contains(m.getName()), false);
        }
    }

    /** But of objects that share nothing, each thread can use its own. */
    private static void oneByEachThread(Check c) {
        List<Long> due = journey().answers();
        List<List<Long>> got = Collections.synchronizedList(new ArrayList<>());
        List<Thread> threads = new ArrayList<>();
        for (int k = 0; k < 4; k++) {
            Thread thread = new Thread(() -> {
                for (int j = 0; j < 200; j++) {
                    got.add(journey().answers());
                }
            });
            threads.add(thread);
            thread.start();
        }
        for (Thread thread : threads) {
            endOf(thread);
        }
        c.is("journeys", got.size(), 800);
        c.is("all answer alike", got.stream().allMatch(due::equals), true);
    }

    private static void endOf(Thread thread) {
        try {
            thread.join();
        } catch (InterruptedException e) {
            throw new IllegalStateException(e);
        }
    }

    /** No promise says of the calls that ask that they change something, so they do not. */
    private static void asking(Check c) {
        Twins.Call[] asked = {x -> x.shown(0, 4), x -> x.shown(200, 0), x -> x.paper(0, 1), x -> x.paper(-1, 0),
            x -> x.comes(0, 0, 1), x -> x.comes(1, 0, 2), x -> x.settled(1, 1), x -> x.due(1), x -> x.netted(0, 2),
            x -> x.count(5), x -> x.count(34), x -> x.count(-1)};
        Twins.Run[] made = {Twins.NEW, Twins.BUSY, Twins.FULL};
        for (int k = 0; k < asked.length; k++) {
            for (Twins.Run before : made) {
                Twins.Call call = asked[k];
                Twins.alike(c, "asked, call " + k, before, x -> {
                    before.on(x);
                    call.on(x);
                });
            }
        }
    }

    /** What was done to one object, even beyond its calls, is nothing to another. */
    private static void another(Check c) {
        NoteHouse worn = new NoteHouse();
        for (int round = 0; round < 100; round++) {
            eachCall(worn, round % 12, round % 3);
        }
        House x = journey();
        List<Long> due = x.answers();
        for (int round = 0; round < 100; round++) {
            eachCall(worn, round % 12, round % 3);
        }
        c.is("a house made later answers as ever", journey().answers().equals(due), true);
        c.is("and goes on so", x.settle(9), 6);
        c.is("with its own dues", x.due(1), 900);
    }
}
