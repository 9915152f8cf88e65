import java.util.Random;

/**
 * All promises: runs of random calls (the same each time), each answer compared with PlainHouse's. They go on behind
 * the 512th call, where the document leaves the answers free: both houses go on there as before.
 */
public final class RandomRunsTest {
    private static final int RUNS = 1500;
    private static final int CALLS = 512;
    private static final Check CHECK = new Check();
    private static final int[] WILD = {Integer.MIN_VALUE, Integer.MIN_VALUE + 1, -100, -2, -1, 0, 1, 2, 11, 12, 13, 20,
        21, 29, 30, 59, 60, 99, 100, 199, 200, 300, 301, 2000, 2001, 3000, 3001, 10000, 10001, 99999, 100000, 100001,
        1000000, 1000001, Integer.MAX_VALUE - 1, Integer.MAX_VALUE};
    private static final String[] WORDS = {"pay", "refuse", "ask", "if", "and", "hand", "advised", "stopped", "age",
        "late", "amount", "left", "day", "forged", "twice", "over", "house", "town", "half", "<", ">", "=", ";", " ",
        "0", "1", "99", "100", "123456", "1234567", "x", "pays", "P", "\t", "\u00ff", "\u0000", ";;", ";"};

    private final Random random;
    private final NoteHouse house = new NoteHouse();
    private final PlainHouse plain = new PlainHouse();
    private final int wildness;
    private final String name;

    private RandomRunsTest(int seed) {
        random = new Random(seed);
        wildness = seed % 10 == 9 ? 30 : seed % 3 == 0 ? 3 : 0;
        name = "run " + seed + ", call ";
    }

    public static void main(String[] args) {
        int runs = args.length > 0 ? Integer.parseInt(args[0]) : RUNS;
        for (int seed = 0; seed < runs; seed++) {
            new RandomRunsTest(seed).run();
        }
        CHECK.end();
    }

    private void run() {
        setUp();
        for (int k = 0; k < CALLS; k++) {
            call(k);
        }
        lookAtAll();
    }

    private int any(int least, int most) {
        if (random.nextInt(100) < wildness) {
            return random.nextInt(4) == 0 ? random.nextInt() : WILD[random.nextInt(WILD.length)];
        }
        if (random.nextInt(60) == 0) {
            return random.nextBoolean() ? least - 1 : most + 1;
        }
        return random.nextInt(12) == 0 ? (random.nextBoolean() ? least : most) : random.nextInt(most - least + 1) + least;
    }

    private int town() {
        return any(0, random.nextInt(3) == 0 ? 11 : 5);
    }

    private void is(int k, String call, long got, long want) {
        CHECK.is(name + k + ": " + call, got, want);
    }

    private static long bit(boolean b) {
        return b ? 1 : 0;
    }

    private void setUp() {
        int ways = random.nextInt(14);
        for (int k = 0; k < ways; k++) {
            way(-1);
        }
        int papers = random.nextInt(5);
        for (int k = 0; k < papers; k++) {
            make(-1);
        }
        for (int t = 0; t < 6; t++) {
            feedText(-1, goodText());
            is(-1, "text", house.text(t), plain.text(t));
        }
    }

    private void call(int k) {
        int dice = random.nextInt(100);
        if (dice < 4) {
            int day = any(plain.count(0) - 1, plain.count(0) + (random.nextInt(20) == 0 ? 400 : 4));
            is(k, "clock " + day, bit(house.clock(day)), bit(plain.clock(day)));
        } else if (dice < 9) {
            way(k);
        } else if (dice < 12) {
            int[] a = {town(), any(0, 3), random.nextBoolean() ? 1000 : any(1, 100000)};
            is(k, "rate", bit(house.rate(a[0], a[1], a[2])), bit(plain.rate(a[0], a[1], a[2])));
        } else if (dice < 15) {
            make(k);
        } else if (dice < 21) {
            tellAdvice(k);
        } else if (dice < 25) {
            tellStop(k);
        } else if (dice < 31) {
            tellText(k);
        } else if (dice < 33) {
            feedText(k, random.nextInt(3) == 0 ? mess() : goodLaw());
            is(k, "law", house.law(), plain.law());
        } else if (dice < 35) {
            int[] a = {town(), any(1, random.nextInt(4) == 0 ? 1000000 : 2000)};
            is(k, "send", house.send(a[0], a[1]), plain.send(a[0], a[1]));
        } else if (dice < 70) {
            show(k);
        } else if (dice < 76) {
            int known = random.nextInt(3) == 0 ? any(0, 3000) : any(plain.count(0), plain.count(0) + 20);
            is(k, "settle " + known, house.settle(known), plain.settle(known));
        } else {
            ask(k);
        }
    }

    private void way(int k) {
        int a = town();
        int b = random.nextInt(3) == 0 ? 0 : town();
        boolean wire = random.nextInt(3) == 0;
        int days = any(0, random.nextInt(4) == 0 ? 99 : 5);
        is(k, "way " + a + " " + b + " " + wire + " " + days, bit(house.way(a, b, wire, days)),
            bit(plain.way(a, b, wire, days)));
    }

    private void make(int k) {
        int hand = any(0, random.nextBoolean() ? 99999 : 33);
        int good = any(1, random.nextBoolean() ? 2000 : 9);
        if (random.nextBoolean()) {
            int leaves = any(1, random.nextBoolean() ? 20 : 3);
            int worth = any(1, 10000);
            is(k, "book", house.book(leaves, worth, hand, good), plain.book(leaves, worth, hand, good));
        } else {
            int limit = any(1, random.nextBoolean() ? 100000 : 900);
            is(k, "credit", house.credit(limit, hand, good), plain.credit(limit, hand, good));
        }
    }

    private int paper() {
        return any(0, Math.max(0, plain.count(1) - 1));
    }

    private int leaf(int p) {
        return plain.paper(p, 0) > 0 ? any(0, plain.paper(p, 0) - 1) : -1;
    }

    private void tellAdvice(int k) {
        int p = paper();
        int t = town();
        if (random.nextInt(3) > 0) {
            is(k, "advise " + p + " " + t, house.advise(p, t), plain.advise(p, t));
        } else {
            int a = any(0, plain.count(2));
            is(k, "lose " + a, bit(house.lose(a)), bit(plain.lose(a)));
        }
    }

    private void tellStop(int k) {
        int p = paper();
        int leaf = random.nextInt(3) == 0 ? any(-1, 3) : leaf(p);
        int t = town();
        is(k, "stop " + p + " " + leaf + " " + t, house.stop(p, leaf, t), plain.stop(p, leaf, t));
    }

    private void tellText(int k) {
        String text = random.nextInt(4) == 0 ? mess() : goodText();
        int t = town();
        feedText(k, random.nextInt(6) == 0 ? spoilt(text) : text);
        is(k, "text " + t + " " + text, house.text(t), plain.text(t));
        is(k, "text " + t + " anew", house.text(t), plain.text(t));
        feedText(k, goodText());
        is(k, "text " + t + " a good one", house.text(t), plain.text(t));
    }

    private void feedText(int k, String text) {
        int had = plain.count(5);
        for (int at = 0; at < text.length(); at += 20) {
            int[] a = new int[5];
            for (int j = 0; j < 20; j++) {
                a[j / 4] = a[j / 4] << 8 | (at + j < text.length() ? text.charAt(at + j) & 255 : 0);
            }
            is(k, "feed", house.feed(a[0], a[1], a[2], a[3], a[4]), plain.feed(a[0], a[1], a[2], a[3], a[4]));
        }
        int n = random.nextInt(50) == 0 ? any(0, 300) : had + text.length();
        is(k, "end " + n, house.end(n), plain.end(n));
    }

    private String blanks() {
        return random.nextInt(5) == 0 ? "  " : random.nextInt(4) == 0 ? " " : "";
    }

    private String goodText() {
        StringBuilder text = new StringBuilder(blanks());
        int rules = random.nextInt(20) == 0 ? random.nextInt(14) : random.nextInt(4) + 1;
        for (int r = 0; r < rules; r++) {
            text.append(r > 0 ? ";" : "").append(blanks()).append(WORDS[random.nextInt(5) == 0 ? random.nextInt(3) : 0]);
            int conds = random.nextInt(20) == 0 ? random.nextInt(8) : random.nextInt(3);
            for (int c = 0; c < conds; c++) {
                text.append(c > 0 ? blanks() + "and " : " if ").append(blanks()).append(WORDS[5 + random.nextInt(8)]);
                text.append(blanks()).append("<>=".charAt(random.nextInt(3))).append(blanks());
                text.append(random.nextInt(3) == 0 ? random.nextInt(2) : random.nextInt(random.nextBoolean() ? 30 : 9000));
            }
        }
        return text.append(blanks()).toString();
    }

    private String goodLaw() {
        StringBuilder text = new StringBuilder(blanks());
        int clauses = random.nextInt(5);
        for (int c = 0; c < clauses; c++) {
            text.append(c > 0 ? ";" : "").append(blanks());
            int kind = random.nextInt(5);
            text.append(new String[] {"stopped", "forged", "twice", "over", "hand"}[kind]).append(' ').append(blanks());
            text.append(kind == 4 ? "" + random.nextInt(30) : WORDS[16 + random.nextInt(3)]);
        }
        return text.append(blanks()).toString();
    }

    private String mess() {
        StringBuilder text = new StringBuilder();
        int words = random.nextInt(12);
        for (int w = 0; w < words; w++) {
            text.append(WORDS[random.nextInt(WORDS.length)]).append(random.nextInt(3) == 0 ? "" : " ");
        }
        for (int k = random.nextInt(10) == 0 ? random.nextInt(320) : 0; k > 0; k--) {
            text.append(' ');
        }
        return text.toString();
    }

    private String spoilt(String text) {
        int at = random.nextInt(text.length() + 1);
        String other = WORDS[random.nextInt(WORDS.length)];
        return text.substring(0, at) + other + text.substring(Math.min(text.length(), at + random.nextInt(3)));
    }

    private void show(int k) {
        int t = town();
        int p = paper();
        int leaf = random.nextInt(40) == 0 ? any(-1, 20) : leaf(p);
        int amount = any(1, random.nextInt(5) == 0 ? 100000 : 400);
        int hand = random.nextBoolean() ? any(0, 33) : any(0, 99999);
        boolean notes = random.nextInt(4) > 0;
        is(k, "show " + t + " " + p + " " + leaf + " " + amount + " " + hand + " " + notes,
            house.show(t, p, leaf, amount, hand, notes), plain.show(t, p, leaf, amount, hand, notes));
    }

    private void ask(int k) {
        int[] a = {any(0, random.nextBoolean() ? 12 : 70), any(0, 9), town()};
        switch (random.nextInt(7)) {
            case 0 -> is(k, "shown", house.shown(a[0], a[1]), plain.shown(a[0], a[1]));
            case 1 -> is(k, "paper", house.paper(a[0], a[1]), plain.paper(a[0], a[1]));
            case 2 -> is(k, "comes", house.comes(a[1] % 3, a[0], a[2]), plain.comes(a[1] % 3, a[0], a[2]));
            case 3 -> is(k, "settled", house.settled(a[0], a[1] % 3), plain.settled(a[0], a[1] % 3));
            case 4 -> is(k, "due", house.due(a[2]), plain.due(a[2]));
            case 5 -> is(k, "netted", house.netted(a[0], a[1] % 5), plain.netted(a[0], a[1] % 5));
            default -> is(k, "count", house.count(a[0]), plain.count(a[0]));
        }
    }

    private void lookAtAll() {
        for (int known : new int[] {plain.count(0), 3000}) {
            is(CALLS, "settle", house.settle(known), plain.settle(known));
            for (int k = 0; k < plain.count(4); k++) {
                for (int what = 0; what < 9; what++) {
                    is(CALLS, "shown " + k + " " + what, house.shown(k, what), plain.shown(k, what));
                    is(CALLS, "settled " + k + " " + what, house.settled(k, what), plain.settled(k, what));
                }
            }
            for (int k = 0; k < 13; k++) {
                is(CALLS, "due " + k, house.due(k), plain.due(k));
                for (int what = 0; what < 4; what++) {
                    is(CALLS, "netted " + k + " " + what, house.netted(k, what), plain.netted(k, what));
                }
            }
        }
        for (int k = 0; k < 60; k++) {
            is(CALLS, "count " + k, house.count(k), plain.count(k));
            for (int t = 0; t < 12; t++) {
                is(CALLS, "advice " + k + " to " + t, house.comes(0, k, t), plain.comes(0, k, t));
                is(CALLS, "stop " + k + " to " + t, house.comes(1, k, t), plain.comes(1, k, t));
                is(CALLS, "paper " + k + " " + t, house.paper(k, t), plain.paper(k, t));
            }
        }
    }
}
