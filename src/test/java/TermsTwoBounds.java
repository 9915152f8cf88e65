/** The sentences of the Terms' part II: PAPERS, HANDS, ADVICES and STOPS. */
final class TermsTwoBounds {
    private TermsTwoBounds() {
    }

    static void all(Sentences s) {
        s.of("Terms", "PAPERS, 30 at most:", TermsTwoBounds::thirty);
        s.of("Terms", "a BOOK of LEAVES (1 to 20, each of a worth, 1 to 10000 coins of the HOUSE),", TermsTwoBounds::books);
        s.of("Terms", "or a CREDIT with a LIMIT (1 to 100000).", TermsTwoBounds::credits);
        s.of("Terms", "Each has a HAND: a number of five digits (0 to 99999), a DAY (as it was made), and so many days for "
            + "which it is GOOD (1 to 2000).", TermsTwoBounds::ofEach);
        s.of("Terms", "UNLIKE are two HANDS by the sum of the differences of their digits.", TermsTwoBounds::unlike);
        s.of("Terms", "ADVICE of a PAPER to a TOWN: a LETTER of the HOUSE;", TermsTwoBounds::advice);
        s.of("Terms", "it can be LOST until it has come (then it never comes).", TermsTwoBounds::lost);
        s.of("Terms", "A STOP of a PAPER, or of one LEAF of a BOOK, told in a TOWN: NEWS.", TermsTwoBounds::stop);
    }

    private static void thirty(Check c) {
        for (int kind = 0; kind < 3; kind++) {
            House x = new House();
            for (int k = 0; k < 30; k++) {
                boolean isBook = kind == 0 || kind == 2 && k % 2 == 0;
                c.is("paper " + k, isBook ? x.book(1, k + 1, 0, 1) : x.credit(k + 1, 0, 1), k);
                c.is("papers", x.count(1), k + 1);
            }
            c.is("a book more", x.book(1, 1, 0, 1), -1);
            c.is("a credit more", x.credit(1, 0, 1), -1);
            c.is("still 30", x.count(1), 30);
            c.is("the first", x.paper(0, 1), 1);
            c.is("the last", x.paper(29, 1), 30);
            c.is("none behind", x.paper(30, 1), -1);
        }
    }

    private static void books(Check c) {
        for (int leaves : new int[] {1, 2, 19, 20}) {
            House x = new House();
            x.agent(0, "pay");
            c.is("leaves " + leaves, x.book(leaves, 7, 0, 1), 0);
            c.is("so many leaves", x.paper(0, 0), leaves);
            c.is("no leaf -1", x.showLeaf(0, 0, -1), -1);
            c.is("leaf 0", x.showLeaf(0, 0, 0), 0);
            c.is("its last leaf", x.showLeaf(0, 0, leaves - 1), 0);
            c.is("no leaf behind", x.showLeaf(0, 0, leaves), -1);
            c.is("two were shown", x.count(4), 2);
        }
        for (int worth : new int[] {1, 2, 9999, 10000}) {
            House x = new House();
            x.agent(0, "pay");
            c.is("worth " + worth, x.book(20, worth, 0, 1), 0);
            c.is("so much worth", x.paper(0, 1), worth);
            x.showLeaf(0, 0, 19);
            c.is("each leaf is worth it", x.shown(0, 3), worth);
        }
        House x = new House();
        for (int n : new int[] {0, -1, Integer.MIN_VALUE, Integer.MAX_VALUE}) {
            c.is("leaves " + n, x.book(n, 1, 0, 1), -1);
            c.is("worth " + n, x.book(1, n, 0, 1), -1);
        }
        c.is("leaves 21", x.book(21, 1, 0, 1), -1);
        c.is("worth 10001", x.book(1, 10001, 0, 1), -1);
        c.is("no book was made", x.count(1), 0);
    }

    private static void credits(Check c) {
        for (int limit : new int[] {1, 2, 99999, 100000}) {
            House x = new House();
            c.is("limit " + limit, x.credit(limit, 0, 1), 0);
            c.is("so much limit", x.paper(0, 1), limit);
            c.is("no leaves", x.paper(0, 0), 0);
            x.agent(0, "pay if left=" + limit);
            c.is("it is left", x.showCredit(0, 0, 1), 0);
        }
        House x = new House();
        for (int n : new int[] {0, -1, 100001, Integer.MIN_VALUE, Integer.MAX_VALUE}) {
            c.is("limit " + n, x.credit(n, 0, 1), -1);
        }
        c.is("no credit was made", x.count(1), 0);
    }

    private static void ofEach(Check c) {
        for (int hand : new int[] {0, 1, 99998, 99999}) {
            House x = new House();
            x.agent(0, "pay if hand=0");
            c.is("a book's hand " + hand, x.book(1, 1, hand, 1), 0);
            c.is("a credit's hand " + hand, x.credit(1, hand, 1), 1);
            x.advise(0, 0);
            x.advise(1, 0);
            c.is("the book has it", x.show(0, 0, 0, 0, hand, true), 0);
            c.is("the credit has it", x.show(0, 1, -1, 1, hand, true), 0);
        }
        for (int good : new int[] {1, 2, 1999, 2000}) {
            daysOfPapers(c, good);
        }
        House x = new House();
        for (int n : new int[] {-1, 100000, Integer.MIN_VALUE, Integer.MAX_VALUE}) {
            c.is("a book's hand " + n, x.book(1, 1, n, 1), -1);
            c.is("a credit's hand " + n, x.credit(1, n, 1), -1);
        }
        for (int n : new int[] {0, -1, 2001, Integer.MIN_VALUE, Integer.MAX_VALUE}) {
            c.is("a book good for " + n, x.book(1, 1, 0, n), -1);
            c.is("a credit good for " + n, x.credit(1, 0, n), -1);
        }
        c.is("none was made", x.count(1), 0);
    }

    /** Made on DAY 1000, so that the CLOCK still reaches the day behind 2000 more. */
    private static void daysOfPapers(Check c, int good) {
        House x = new House();
        x.agent(0, "pay if late=0;ask if late=1");
        x.clock(999);
        c.is("a book good for " + good, x.book(1, 1, 0, good), 0);
        c.is("a credit good for " + good, x.credit(1, 0, good), 1);
        c.is("the book's day", x.paper(0, 2), 999);
        c.is("the credit's day", x.paper(1, 2), 999);
        x.clock(999 + good);
        c.is("the book's day stays", x.paper(0, 2), 999);
        c.is("the book's last good day", x.showLeaf(0, 0, 0), 0);
        c.is("the credit's last good day", x.showCredit(0, 1, 1), 0);
        x.clock(1000 + good);
        c.is("the book is late", x.showLeaf(0, 0, 0), 2);
        c.is("the credit is late", x.showCredit(0, 1, 1), 2);
    }

    private static void unlike(Check c) {
        int[][] pairs = {{0, 0, 0}, {99999, 99999, 0}, {0, 99999, 45}, {99999, 0, 45}, {0, 1, 1}, {0, 10000, 1},
            {9, 10, 10}, {10, 9, 10}, {9999, 10000, 37}, {10000, 9999, 37}, {12345, 54321, 12}, {90909, 9090, 45},
            {50505, 5, 10}, {99998, 99999, 1}, {0, 90000, 9}, {0, 900, 9}, {13579, 97531, 24}};
        for (int[] p : pairs) {
            House x = new House();
            x.credit(9, p[0], 1);
            x.advise(0, 0);
            x.agent(0, "pay if hand=" + p[2]);
            c.is("unlike are " + p[0] + " and " + p[1], x.show(0, 0, -1, 1, p[1], true), 0);
            c.is("settled by law of " + p[2], kindByLaw(x, p[2]), 2);
            c.is("settled by law of " + (p[2] + 1), kindByLaw(x, p[2] + 1), 0);
        }
    }

    private static long kindByLaw(House x, int number) {
        x.law("hand " + number);
        x.settle(0);
        return x.settled(0, 0);
    }

    private static void advice(Check c) {
        House x = new House();
        x.credit(9, 0, 1);
        x.credit(9, 0, 1);
        x.post(0, 1, 2);
        x.post(1, 2, 2);
        x.post(2, 0, 9);
        x.wire(0, 2, 0);
        x.advise(0, 2);
        c.is("by posts, from the house", x.comes(0, 0, 2), 4);
        for (int t = 0; t < 3; t++) {
            x.agent(t, "pay if advised=1");
        }
        x.clock(3);
        c.is("the day ahead", x.showCredit(2, 0, 1), 1);
        x.clock(4);
        c.is("on its day", x.showCredit(2, 0, 1), 0);
        c.is("not of another paper", x.showCredit(2, 1, 1), 1);
        c.is("not to the town on its way", x.showCredit(1, 0, 1), 1);
        c.is("not to the house's own", x.showCredit(0, 0, 1), 1);
    }

    private static void lost(Check c) {
        House x = new House();
        x.credit(9, 0, 1);
        x.post(0, 1, 2);
        x.post(0, 2, 0);
        x.agent(1, "pay if advised=1");
        x.advise(0, 1);
        x.advise(0, 1);
        x.advise(0, 2);
        c.is("lost on the day of its sending", x.lose(0), 1);
        c.is("what came at once is not lost", x.lose(2), 0);
        c.is("it has come", x.comes(0, 2, 2), 0);
        x.clock(1);
        c.is("lost on the last day ahead of its coming", x.lose(1), 1);
        x.clock(2);
        c.is("it never comes", x.comes(0, 0, 1), -1);
        c.is("nor does the other", x.comes(0, 1, 1), -1);
        c.is("the agent has none", x.showCredit(1, 0, 1), 1);
        x.advise(0, 1);
        x.clock(4);
        c.is("on the day of its coming it is too late", x.lose(3), 0);
        c.is("the agent has it", x.showCredit(1, 0, 1), 0);
        x.clock(3000);
        c.is("so it is ever after", x.lose(3), 0);
        c.is("and it never comes back", x.comes(0, 0, 1), -1);
    }

    private static void stop(Check c) {
        House x = new House();
        x.book(20, 5, 0, 1);
        x.credit(9, 0, 1);
        x.wire(3, 1, 2);
        x.agent(1, "ask if stopped=1;pay");
        x.agent(3, "ask if stopped=1;pay");
        x.stop(0, 19, 3);
        c.is("that leaf, where it is told", x.showLeaf(3, 0, 19), 2);
        c.is("the leaf ahead of it", x.showLeaf(3, 0, 18), 0);
        c.is("the first leaf", x.showLeaf(3, 0, 0), 0);
        c.is("that leaf, elsewhere, not yet", x.showLeaf(1, 0, 19), 0);
        x.stop(1, -1, 3);
        c.is("a credit", x.showCredit(3, 1, 1), 2);
        x.clock(1);
        c.is("the day ahead", x.showLeaf(1, 0, 19), 0);
        c.is("the day ahead, of a credit", x.showCredit(1, 1, 1), 0);
        x.clock(2);
        c.is("on its day", x.showLeaf(1, 0, 19), 2);
        c.is("on its day, of a credit", x.showCredit(1, 1, 1), 2);
        x.stop(0, -1, 1);
        c.is("the book: the first leaf", x.showLeaf(1, 0, 0), 2);
        c.is("the book: the last leaf", x.showLeaf(1, 0, 19), 2);
        c.is("the book, elsewhere", x.showLeaf(3, 0, 0), 0);
    }
}
