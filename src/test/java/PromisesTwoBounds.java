/** The sentences of promises 10 to 15: feed, end, text, law, show, send. */
final class PromisesTwoBounds {
    private static final int MIN = Integer.MIN_VALUE;
    private static final int MAX = Integer.MAX_VALUE;
    private static final int BLANKS = 0x20202020;

    private PromisesTwoBounds() {
    }

    static void all(Sentences s) {
        s.of(10, "Twenty bytes come behind the TAPE, of each number the highest first: how many it has;",
            PromisesTwoBounds::twentyBytes);
        s.of(10, "NONE, and none comes, if it would have more than 300.", PromisesTwoBounds::fullTape);
        s.of(11, "The TAPE has its first n bytes alone: n;", PromisesTwoBounds::firstBytes);
        s.of(11, "NONE, and nothing happens, if it has not so many, or n is below 0.", PromisesTwoBounds::notSoMany);
        s.of(12, "The TAPE, which is empty then, is the text of a TOWN: how many RULES;", PromisesTwoBounds::textOfTown);
        s.of(12, "-2 - its FAULT (then that one stays);", PromisesTwoBounds::faultOfText);
        s.of(12, "NONE, and nothing happens, without the TOWN.", PromisesTwoBounds::noTown);
        s.of(13, "The TAPE, which is empty then, is the LAW: 0;", PromisesTwoBounds::lawOfTape);
        s.of(13, "its FAULT (then that one stays; of a text of more than 200 bytes 1 + 4 * 200, whatever stands in it).",
            PromisesTwoBounds::faultOfLaw);
        s.of(14, "Something is SHOWN today: in a TOWN a PAPER, of a BOOK a LEAF (the amount is of no matter), of a CREDIT an "
            + "amount (1 to 100000; the LEAF is NONE), a HAND; whether the agent notes it: 0 PAID, 1 refused, 2 ASKED;",
            PromisesTwoBounds::shownToday);
        s.of(14, "NONE, and nothing is SHOWN: there are 200, or something is not as told.", PromisesTwoBounds::notShown);
        s.of(15, "So much of its COIN is SENT to a TOWN: what was SENT to it in all;", PromisesTwoBounds::sentInAll);
        s.of(15, "NONE, and nothing happens, for others (TOWN 0 too), or above 1000000000 in all.", PromisesTwoBounds::notSent);
    }

    private static void twentyBytes(Check c) {
        House x = new House();
        for (int k = 1; k <= 15; k++) {
            c.is("feed " + k, x.feed(BLANKS, BLANKS, BLANKS, BLANKS, BLANKS), 20 * k);
            c.is("the tape has", x.count(5), 20 * k);
        }
        // each of the twenty places in turn has a byte that can't stand there, low, high and of 128 or more
        for (int place = 0; place < 20; place++) {
            for (int b : new int[] {0, 1, 127, 128, 255}) {
                House y = new House();
                int[] four = {BLANKS, BLANKS, BLANKS, BLANKS, BLANKS};
                int shift = 24 - place % 4 * 8;
                four[place / 4] = four[place / 4] & ~(255 << shift) | b << shift;
                y.feed(BLANKS, BLANKS, BLANKS, BLANKS, BLANKS);
                y.end(7);
                c.is("behind 7", y.feed(four[0], four[1], four[2], four[3], four[4]), 27);
                c.is("byte " + b + " at " + place, y.text(0), -3 - 4 * (7 + place));
            }
        }
        House z = new House();
        z.feed(0x61736B20, 0x69662061, 0x67653D31, 0x3B706179, 0x3B61736B);
        c.is("ask if age=1;pay;ask", z.text(0), 3);
    }

    private static void fullTape(Check c) {
        for (int length = 281; length <= 300; length++) {
            int n = length;
            String text = "ask if day=0;pay" + " ".repeat(n - 16);
            Twins.refused(c, "feed behind " + n, x -> x.tape(text), x -> x.feed(0, -1, MIN, MAX, 1), -1);
            House x = new House();
            x.tape(text);
            x.feed(0, 0, 0, 0, 0);
            c.is("still " + n, x.count(5), n);
            c.is("what it had", x.text(0), 2);
        }
        House x = new House();
        x.tape("ask if day=0;pay" + " ".repeat(264));
        c.is("behind 280", x.feed(BLANKS, BLANKS, BLANKS, BLANKS, 0x20203B20), 300);
        c.is("they have come", x.text(0), -3 - 4 * 300);
        c.is("there is room again", x.feed(0, 0, 0, 0, 0), 20);
        House y = new House();
        Twins.FULL.on(y);
        c.is("none behind 300", y.feed(0, 0, 0, 0, 0), -1);
        y.end(280);
        c.is("behind 280 again", y.feed(BLANKS, BLANKS, BLANKS, BLANKS, BLANKS), 300);
        c.is("twelve rules", y.text(0), 12);
    }

    private static void firstBytes(Check c) {
        House x = new House();
        c.is("0 of 0", x.end(0), 0);
        String text = "ask;pay;ask;refuse if";
        int[] rules = {0, -3, -3, 1, -3 - 16, -3 - 16, -3 - 16, 2, -3 - 32, -3 - 32, -3 - 32, 3, -3 - 48, -3 - 48};
        for (int n = 0; n < rules.length; n++) {
            House y = new House();
            y.tape(text);
            c.is("the first " + n, y.end(n), n);
            c.is("so many", y.count(5), n);
            c.is("they alone are the text", y.text(0), rules[n]);
        }
        House z = new House();
        z.tape("pay" + " ".repeat(297));
        for (int n : new int[] {300, 299, 3, 3}) {
            c.is("the first " + n, z.end(n), n);
            c.is("so many", z.count(5), n);
        }
        c.is("it goes on behind them", z.feed(0x3B61736B, BLANKS, BLANKS, BLANKS, BLANKS), 23);
        c.is("pay;ask", z.text(0), 2);
    }

    private static void notSoMany(Check c) {
        Twins.eachWrong(c, "end", (x, a) -> x.end(a[0]), new int[] {0}, new int[][] {{-1, 301, MIN, MAX}}, -1);
        Twins.refused(c, "1 of 0", Twins.NEW, x -> x.end(1), -1);
        Twins.refused(c, "17 of 16", Twins.BUSY, x -> x.end(17), -1);
        Twins.refused(c, "all 16", Twins.BUSY, x -> x.end(16), 16);
        Twins.refused(c, "all 300", Twins.FULL, x -> x.end(300), 300);
        House x = new House();
        x.tape("pay;ask");
        x.end(3);
        c.is("what was cut off is gone", x.end(7), -1);
        c.is("3 stay", x.count(5), 3);
        c.is("the text of 3", x.text(0), 1);
        c.is("the tape is empty", x.end(1), -1);
    }

    private static void textOfTown(Check c) {
        for (int t = 0; t < 12; t++) {
            House x = new House();
            x.credit(9, 0, 1);
            c.is("three rules of " + t, x.agent(t, "ask if day=9;pay;ask"), 3);
            c.is("the tape is empty, " + t, x.count(5), 0);
            for (int other = 0; other < 12; other++) {
                c.is("rules of " + other, x.count(10 + other), other == t ? 3 : 0);
                c.is("shown in " + other, x.showCredit(other, 0, 1), other == t ? 0 : 1);
            }
            c.is("the empty tape: no rules", x.text(t), 0);
            c.is("it has none now", x.count(10 + t), 0);
        }
    }

    private static void faultOfText(Check c) {
        String[] wrong = {"x", "pay;", "pay if", "pay if day=1234567", "pay" + ";pay".repeat(12),
            "pay if day=0" + " and day=0".repeat(6), " ".repeat(299) + "x"};
        long[] answers = {-3, -19, -27, -2 - (1 + 4 * 11 + 1), -2 - (1 + 4 * 48 + 2), -2 - (1 + 4 * 67 + 2), -3 - 4 * 299};
        for (int k = 0; k < wrong.length; k++) {
            String text = wrong[k];
            for (int town : new int[] {0, 1, 2, 11}) {
                House x = new House();
                Twins.BUSY.on(x);
                x.end(0);
                c.is("text " + text, x.agent(town, text), answers[k]);
                c.is("the tape behind " + text, x.count(5), 0);
                Twins.alike(c, "the one that was stays, behind " + text, y -> {
                    Twins.BUSY.on(y);
                    y.end(0);
                }, y -> {
                    Twins.BUSY.on(y);
                    y.end(0);
                    y.agent(town, text);
                });
            }
        }
    }

    private static void noTown(Check c) {
        int[][] wrong = {{-1, 12, MIN, MAX}};
        Twins.eachWrong(c, "text", (x, a) -> x.text(a[0]), new int[] {0}, wrong, -1);
        House x = new House();
        x.tape("pay");
        x.text(12);
        c.is("the tape stays", x.count(5), 3);
        c.is("and is a text then", x.text(11), 1);
    }

    private static void lawOfTape(Check c) {
        House x = new House();
        c.is("a law", x.law("hand 7;twice half"), 0);
        c.is("the tape is empty", x.count(5), 0);
        c.is("its hand", x.count(34), 7);
        c.is("its twice", x.count(32), 2);
        c.is("the empty tape", x.law(), 0);
        c.is("all without: hand", x.count(34), 10);
        c.is("all without: twice", x.count(32), 0);
        x.tape("over house");
        x.text(0);
        c.is("what was no text is no law later", x.law(), 0);
        c.is("over half still", x.count(33), 2);
        c.is("200 bytes", x.law("over house" + " ".repeat(190)), 0);
        c.is("over house", x.count(33), 0);
    }

    private static void faultOfLaw(Check c) {
        String[] wrong = {"x", "over", "over half;", "hand 100", "hand 1;hand 1", "over half;twice half;over half",
            " ".repeat(201), "over half" + " ".repeat(192), "x" + " ".repeat(299), "hand 100;".repeat(30), "x".repeat(200)};
        long[] answers = {1, 17, 41, 22, 31, 1 + 4 * 21 + 2, 801, 801, 801, 801, 1};
        for (int k = 0; k < wrong.length; k++) {
            String text = wrong[k];
            House x = new House();
            Twins.BUSY.on(x);
            x.end(0);
            c.is("law " + text, x.law(text), answers[k]);
            c.is("the tape behind " + text, x.count(5), 0);
            Twins.alike(c, "the one that was stays, behind " + text, y -> {
                Twins.BUSY.on(y);
                y.end(0);
            }, y -> {
                Twins.BUSY.on(y);
                y.end(0);
                y.law(text);
            });
        }
    }

    private static void shownToday(Check c) {
        House x = new House();
        x.book(20, 50, 0, 9);
        x.credit(9, 0, 9);
        x.agent(11, "pay if amount=50;refuse if amount=1;ask if amount=100000;pay if amount=2");
        x.clock(3000);
        for (int amount : new int[] {MIN, -1, 0, 1, 100000, 100001, MAX}) {
            c.is("a leaf, whatever the amount: " + amount, x.show(11, 0, 19, amount, 99999, true), 0);
            c.is("its worth", x.shown((int) x.count(4) - 1, 3), 50);
        }
        c.is("leaf 0, hand 0", x.show(11, 0, 0, 0, 0, false), 0);
        c.is("1 of a credit", x.show(11, 1, -1, 1, 0, true), 1);
        c.is("100000 of a credit", x.show(11, 1, -1, 100000, 99999, true), 2);
        c.is("2, not noted", x.show(11, 1, -1, 2, 0, false), 0);
        c.is("nothing is noted", x.paper(1, 3), 0);
        c.is("2, noted", x.show(11, 1, -1, 2, 0, true), 0);
        c.is("it is noted", x.paper(1, 3), 2);
        c.is("without a rule", x.show(11, 1, -1, 3, 0, true), 1);
        c.is("on that day", x.shown((int) x.count(4) - 1, 7), 3000);
        c.is("all that were shown", x.count(4), 13);
    }

    private static void notShown(Check c) {
        int[] towns = {-1, 12, MIN, MAX};
        int[] papers = {-1, 30, 31, MIN, MAX};
        int[] hands = {-1, 100000, MIN, MAX};
        Twins.CallOf show = (x, a) -> x.show(a[0], a[1], a[2], a[3], a[4], a[5] == 1);
        for (int notes = 0; notes < 2; notes++) {
            int[][] ofBook = {towns, papers, {-1, -2, 20, 21, MIN, MAX}, {}, hands};
            Twins.eachWrong(c, "show a leaf", show, new int[] {2, 0, 0, 1, 12345, notes}, ofBook, -1);
            int[][] ofCredit = {towns, papers, {-2, 0, 1, MIN, MAX}, {0, -1, 100001, MIN, MAX}, hands};
            Twins.eachWrong(c, "show a credit", show, new int[] {2, 1, -1, 1, 54321, notes}, ofCredit, -1);
        }
        Twins.refused(c, "paper 0 of a new house", Twins.NEW, x -> x.show(0, 0, 0, 1, 0, true), -1);
        Twins.refused(c, "a credit of a new house", Twins.NEW, x -> x.show(0, 0, -1, 1, 0, true), -1);
        Twins.refused(c, "the paper behind the last", Twins.BUSY, x -> x.show(2, 2, -1, 1, 0, true), -1);
        Twins.refused(c, "the leaf behind the last", Twins.BUSY, x -> x.show(2, 0, 3, 1, 0, true), -1);
        Twins.refused(c, "a 201st, a leaf", Twins.FULL, x -> x.show(1, 0, 0, 1, 0, true), -1);
        Twins.refused(c, "a 201st, of a credit", Twins.FULL, x -> x.show(1, 1, -1, 1, 0, true), -1);
        Twins.refused(c, "a 201st, where none pays", Twins.FULL, x -> x.show(5, 1, -1, 1, 0, true), -1);
    }

    private static void sentInAll(Check c) {
        House x = new House();
        for (int t = 1; t < 12; t++) {
            c.is("1 to " + t, x.send(t, 1), 1);
            c.is("1000000 to " + t, x.send(t, 1000000), 1000001);
            c.is("999999 to " + t, x.send(t, 999999), 2000000);
        }
        x.settle(0);
        for (int t = 0; t < 12; t++) {
            c.is("due to " + t, x.due(t), t == 0 ? 0 : -2000000);
        }
    }

    private static void notSent(Check c) {
        int[][] wrong = {{-1, 0, 12, MIN, MAX}, {0, -1, 1000001, MIN, MAX}};
        for (int town : new int[] {1, 11}) {
            Twins.eachWrong(c, "send", (x, a) -> x.send(a[0], a[1]), new int[] {town, 5}, wrong, -1);
        }
        // 512 calls send 512000000 at most, so the bound of all is behind what is promised; it holds there too
        NoteHouse x = new NoteHouse();
        for (int k = 1; k <= 999; k++) {
            x.send(1, 1000000);
        }
        c.is("up to 999999999", x.send(1, 999999), 999999999);
        c.is("2 more", x.send(1, 2), -1);
        c.is("the most more", x.send(1, 1000000), -1);
        c.is("1 more", x.send(1, 1), 1000000000);
        c.is("1 above", x.send(1, 1), -1);
        c.is("another town has its own", x.send(2, 1000000), 1000000);
        x.settle(0);
        c.is("all of it", x.due(1), -1000000000L);
    }
}
