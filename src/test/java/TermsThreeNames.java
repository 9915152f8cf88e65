/** The sentences of the Terms' part III on the NAMES, and on what is SHOWN and PAID. */
final class TermsThreeNames {
    private TermsThreeNames() {
    }

    static void all(Sentences s) {
        s.of("Terms", "NAMES: hand (how UNLIKE the HAND shown and the PAPER's are, if an ADVICE of it has come to the TOWN; else "
            + "99),", TermsThreeNames::hand);
        s.of("Terms", "advised (1 if one has come),", TermsThreeNames::advised);
        s.of("Terms", "stopped (1 if a STOP of it, or of its LEAF, has come),", TermsThreeNames::stopped);
        s.of("Terms", "age (DAYS since it was made), late (1 if that is above its GOOD days),", TermsThreeNames::ageAndLate);
        s.of("Terms", "amount (coins of the HOUSE),", TermsThreeNames::amount);
        s.of("Terms", "left (of a CREDIT its LIMIT less what is NOTED on it; of a LEAF its worth), day.", TermsThreeNames::leftAndDay);
        s.of("Terms", "SHOWN, 200 at most, by numbers:", TermsThreeNames::twoHundred);
        s.of("Terms", "in a TOWN a PAPER, a LEAF (of a BOOK; its worth is the amount) or an amount (of a CREDIT), a HAND:",
            TermsThreeNames::whatIsShown);
        s.of("Terms", "the first RULE all of whose CONDS are so is done; without one it is refused.", TermsThreeNames::firstRule);
        s.of("Terms", "PAID: the TOWN pays amount * RATE / 1000, downwards, of its COIN;", TermsThreeNames::downwards);
        s.of("Terms", "of a CREDIT the amount is NOTED on it, unless the agent forgets (a traveller's CREDIT goes with him).",
            TermsThreeNames::noted);
        s.of("Terms", "Each PAID one is told to the HOUSE by a LETTER of that DAY (ASKED ones and refused ones are not).",
            TermsThreeNames::letters);
    }

    /** What a NAME is for what is shown: neither less nor more; TOWN 1 asks if the COND is so, else it refuses. */
    private static void is(Check c, House x, int[] shown, String name, int value) {
        String told = name + " is " + value;
        c.is(told, asks(x, shown, name + "=" + value), 2);
        c.is(told + ", not less", asks(x, shown, name + "<" + value), 1);
        c.is(told + ", not more", asks(x, shown, name + ">" + value), 1);
        c.is(told + ", less than one more", asks(x, shown, name + "<" + (value + 1)), 2);
        if (value > 0) {
            c.is(told + ", more than one less", asks(x, shown, name + ">" + (value - 1)), 2);
        }
    }

    private static long asks(House x, int[] shown, String cond) {
        x.agent(1, "ask if " + cond);
        return x.show(1, shown[0], shown[1], shown[2], shown[3], true);
    }

    private static void hand(Check c) {
        House x = new House();
        x.credit(9, 10203, 5);
        x.book(1, 9, 99999, 5);
        x.post(0, 1, 2);
        x.advise(0, 1);
        x.advise(1, 1);
        x.clock(1);
        is(c, x, new int[] {0, -1, 1, 10203}, "hand", 99);
        is(c, x, new int[] {1, 0, 0, 0}, "hand", 99);
        x.clock(2);
        is(c, x, new int[] {0, -1, 1, 10203}, "hand", 0);
        is(c, x, new int[] {0, -1, 1, 10204}, "hand", 1);
        is(c, x, new int[] {0, -1, 1, 99999}, "hand", 39);
        is(c, x, new int[] {1, 0, 0, 0}, "hand", 45);
        House y = new House();
        y.credit(9, 7, 5);
        y.credit(9, 7, 5);
        y.advise(0, 0);
        y.post(0, 1, 0);
        is(c, y, new int[] {0, -1, 1, 7}, "hand", 99);
        y.advise(1, 1);
        is(c, y, new int[] {0, -1, 1, 7}, "hand", 99);
        y.advise(0, 1);
        is(c, y, new int[] {0, -1, 1, 7}, "hand", 0);
    }

    private static void advised(Check c) {
        House x = new House();
        x.credit(9, 0, 5);
        int[] shown = {0, -1, 1, 0};
        x.post(0, 1, 2);
        is(c, x, shown, "advised", 0);
        x.advise(0, 1);
        x.clock(1);
        is(c, x, shown, "advised", 0);
        x.clock(2);
        is(c, x, shown, "advised", 1);
        x.advise(0, 1);
        x.clock(4);
        is(c, x, shown, "advised", 1);
        x.clock(3000);
        is(c, x, shown, "advised", 1);
        House y = new House();
        y.credit(9, 0, 5);
        y.post(0, 1, 2);
        y.advise(0, 1);
        y.lose(0);
        y.advise(0, 2);
        y.clock(2);
        is(c, y, shown, "advised", 0);
    }

    private static void stopped(Check c) {
        House x = new House();
        x.book(3, 9, 0, 5);
        x.credit(9, 0, 5);
        x.wire(0, 1, 2);
        int[] leaf = {0, 1, 0, 0};
        int[] credit = {1, -1, 1, 0};
        x.stop(0, 1, 0);
        x.stop(1, -1, 0);
        x.clock(1);
        is(c, x, leaf, "stopped", 0);
        is(c, x, credit, "stopped", 0);
        x.clock(2);
        is(c, x, leaf, "stopped", 1);
        is(c, x, credit, "stopped", 1);
        is(c, x, new int[] {0, 0, 0, 0}, "stopped", 0);
        is(c, x, new int[] {0, 2, 0, 0}, "stopped", 0);
        x.stop(0, 1, 1);
        x.stop(0, -1, 0);
        x.clock(3);
        is(c, x, leaf, "stopped", 1);
        is(c, x, new int[] {0, 2, 0, 0}, "stopped", 0);
        x.clock(4);
        is(c, x, new int[] {0, 2, 0, 0}, "stopped", 1);
    }

    private static void ageAndLate(Check c) {
        House x = new House();
        x.clock(10);
        x.book(1, 9, 0, 1);
        x.credit(9, 0, 2000);
        int[] book = {0, 0, 0, 0};
        int[] credit = {1, -1, 1, 0};
        is(c, x, book, "age", 0);
        is(c, x, book, "late", 0);
        x.clock(11);
        is(c, x, book, "age", 1);
        is(c, x, book, "late", 0);
        x.clock(12);
        is(c, x, book, "age", 2);
        is(c, x, book, "late", 1);
        is(c, x, credit, "late", 0);
        x.clock(2010);
        is(c, x, credit, "age", 2000);
        is(c, x, credit, "late", 0);
        x.clock(2011);
        is(c, x, credit, "late", 1);
        House y = new House();
        y.credit(9, 0, 1);
        y.clock(3000);
        is(c, y, new int[] {0, -1, 1, 0}, "age", 3000);
        is(c, y, new int[] {0, -1, 1, 0}, "late", 1);
    }

    private static void amount(Check c) {
        House x = new House();
        x.book(1, 10000, 0, 1);
        x.credit(1, 0, 1);
        x.rate(1, 3, 100000);
        is(c, x, new int[] {1, -1, 1, 0}, "amount", 1);
        is(c, x, new int[] {1, -1, 100000, 0}, "amount", 100000);
        is(c, x, new int[] {0, 0, 0, 0}, "amount", 10000);
        is(c, x, new int[] {0, 0, Integer.MIN_VALUE, 0}, "amount", 10000);
        is(c, x, new int[] {0, 0, 5, 0}, "amount", 10000);
    }

    private static void leftAndDay(Check c) {
        House x = new House();
        x.book(2, 1, 0, 1);
        x.credit(100000, 0, 1);
        int[] leaf = {0, 1, 0, 0};
        int[] credit = {1, -1, 1, 0};
        is(c, x, leaf, "left", 1);
        is(c, x, credit, "left", 100000);
        is(c, x, credit, "day", 0);
        x.agent(2, "pay");
        x.showLeaf(2, 0, 1);
        is(c, x, leaf, "left", 1);
        x.showCredit(2, 1, 99999);
        is(c, x, credit, "left", 1);
        x.showCredit(2, 1, 1);
        is(c, x, credit, "left", 0);
        x.clock(3000);
        is(c, x, credit, "day", 3000);
        x.showCredit(2, 1, 1);
        c.is("less than nothing", asks(x, credit, "left<0"), 2);
        c.is("not nothing", asks(x, credit, "left=0"), 1);
        c.is("not one", asks(x, credit, "left=1"), 1);
        c.is("not more", asks(x, credit, "left>0"), 1);
    }

    private static void twoHundred(Check c) {
        String[] deeds = {"pay", "refuse", "ask"};
        for (int d = 0; d < 3; d++) {
            House x = new House();
            x.credit(100000, 0, 1);
            x.agent(1, deeds[d]);
            for (int k = 0; k < 200; k++) {
                c.is(deeds[d] + " " + k, x.showCredit(1, 0, k + 1), d);
            }
            c.is("one more", x.showCredit(1, 0, 1), -1);
            c.is("200 in all", x.count(4), 200);
            c.is("the first", x.shown(0, 3), 1);
            c.is("the last", x.shown(199, 3), 200);
            c.is("none behind", x.shown(200, 3), -1);
            c.is("paid on it", x.paper(0, 4), d == 0 ? 200 : 0);
            c.is("noted on it", x.paper(0, 3), d == 0 ? 20100 : 0);
        }
    }

    private static void whatIsShown(Check c) {
        House x = new House();
        x.agent(11, "pay");
        x.book(20, 77, 0, 1);
        x.credit(1, 0, 1);
        c.is("the last leaf, the last hand", x.show(11, 0, 19, 5, 99999, true), 0);
        c.is("its worth is the amount", x.shown(0, 3), 77);
        c.is("the least amount", x.show(11, 1, -1, 1, 0, true), 0);
        c.is("the most", x.show(11, 1, -1, 100000, 0, true), 0);
        c.is("that amount", x.shown(2, 3), 100000);
        c.is("a leaf of a credit", x.show(11, 1, 0, 1, 0, true), -1);
        c.is("a book without a leaf", x.show(11, 0, -1, 1, 0, true), -1);
        c.is("leaf 20 of 20", x.show(11, 0, 20, 1, 0, true), -1);
        c.is("amount 0", x.show(11, 1, -1, 0, 0, true), -1);
        c.is("amount 100001", x.show(11, 1, -1, 100001, 0, true), -1);
        c.is("hand -1", x.show(11, 1, -1, 1, -1, true), -1);
        c.is("hand 100000", x.show(11, 1, -1, 1, 100000, true), -1);
        c.is("paper 2", x.show(11, 2, -1, 1, 0, true), -1);
        c.is("paper -1", x.show(11, -1, -1, 1, 0, true), -1);
        c.is("three were shown", x.count(4), 3);
    }

    private static void firstRule(Check c) {
        House x = new House();
        x.credit(9, 0, 1);
        c.is("no text", x.showCredit(1, 0, 5), 1);
        c.is("no rule", x.shown(0, 5), -1);
        x.agent(1, "ask if amount=4;pay if amount=5;ask if amount=5;refuse if amount=6");
        c.is("the first that is so", x.showCredit(1, 0, 5), 0);
        c.is("rule 1", x.shown(1, 5), 1);
        c.is("a rule that refuses", x.showCredit(1, 0, 6), 1);
        c.is("rule 3", x.shown(2, 5), 3);
        c.is("none is so", x.showCredit(1, 0, 7), 1);
        c.is("without a rule", x.shown(3, 5), -1);
        x.agent(1, "pay if amount=5 and day=1;ask if day=0 and amount=5;pay");
        c.is("all its conds must be so", x.showCredit(1, 0, 5), 2);
        c.is("the last rule, without conds", x.showCredit(1, 0, 6), 0);
        c.is("rule 2", x.shown(5, 5), 2);
        x.agent(1, "refuse;pay");
        c.is("the first, without conds", x.showCredit(1, 0, 5), 1);
        c.is("rule 0", x.shown(6, 5), 0);
    }

    private static void downwards(Check c) {
        int[][] cases = {{1, 999, 0}, {1, 1000, 1}, {1, 1999, 1}, {1, 2000, 2}, {999, 1, 0}, {1000, 1, 1}, {1999, 1, 1},
            {3, 1500, 4}, {100000, 1, 100}, {100000, 100000, 10000000}, {99999, 99999, 9999800}, {1, 1, 0}, {7, 143, 1},
            {7, 142, 0}};
        for (int[] k : cases) {
            House x = new House();
            x.credit(100000, 0, 1);
            x.rate(1, 2, k[1]);
            x.agent(1, "pay");
            x.showCredit(1, 0, k[0]);
            c.is(k[0] + " at " + k[1], x.shown(0, 6), k[2]);
            c.is("it is paid though", x.shown(0, 4), 0);
        }
        House x = new House();
        x.credit(9, 0, 1);
        x.agent(1, "refuse if amount=1;ask if amount=2");
        for (int amount = 1; amount <= 3; amount++) {
            x.showCredit(1, 0, amount);
            c.is("nothing is paid of " + amount, x.shown(amount - 1, 6), 0);
        }
    }

    private static void noted(Check c) {
        House x = new House();
        x.credit(10, 0, 1);
        x.book(1, 10, 0, 1);
        x.agent(1, "pay if left>3;ask if left=3");
        x.agent(2, "pay if left>3;ask if left=3");
        x.show(1, 0, -1, 5, 0, false);
        c.is("forgotten", x.paper(0, 3), 0);
        x.show(1, 0, -1, 7, 0, true);
        c.is("noted", x.paper(0, 3), 7);
        c.is("it goes with him: seen in another town", x.show(2, 0, -1, 1, 0, true), 2);
        c.is("what is asked is not noted", x.paper(0, 3), 7);
        x.agent(2, "refuse if left=3;pay");
        x.show(2, 0, -1, 1, 0, true);
        c.is("what is refused is not noted", x.paper(0, 3), 7);
        x.show(1, 1, 0, 0, 0, true);
        c.is("a book has nothing noted", x.paper(1, 3), 0);
        c.is("but it was paid", x.paper(1, 4), 1);
        x.agent(1, "pay");
        x.show(1, 0, -1, 100000, 0, true);
        c.is("noted beyond its limit", x.paper(0, 3), 100007);
        c.is("paid on it, forgotten ones too", x.paper(0, 4), 3);
    }

    private static void letters(Check c) {
        House x = new House();
        x.credit(9, 0, 1);
        x.post(0, 1, 99);
        x.agent(1, "pay if amount=1;refuse if amount=2;ask if amount=3");
        x.clock(2901);
        for (int amount = 1; amount <= 4; amount++) {
            x.showCredit(1, 0, amount);
            c.is("the letter of " + amount, x.shown(amount - 1, 8), amount == 1 ? 3000 : -1);
        }
        x.clock(2902);
        x.showCredit(1, 0, 1);
        c.is("a letter that comes behind day 3000", x.shown(4, 8), 3001);
        c.is("known on 2999", x.settle(2999), 0);
        c.is("known on 3000", x.settle(3000), 1);
        c.is("the paid one", x.settled(0, 0), 0);
        for (int k = 1; k < 5; k++) {
            c.is("not told: " + k, x.settled(k, 0), -1);
        }
    }
}
