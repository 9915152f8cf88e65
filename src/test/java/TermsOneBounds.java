/** The sentences of the Terms' part I: TOWNS, the CLOCK, WAYS, LETTERS and NEWS, COINS and RATES. */
final class TermsOneBounds {
    private static final int[] NO_TOWNS = {-1, 12, Integer.MIN_VALUE, Integer.MAX_VALUE};

    private TermsOneBounds() {
    }

    static void all(Sentences s) {
        s.of("Terms", "TOWNS 0 to 11;", TermsOneBounds::towns);
        s.of("Terms", "the HOUSE is in TOWN 0.", TermsOneBounds::townOfTheHouse);
        s.of("Terms", "The CLOCK tells a DAY (0 to 3000; 0 at first; it never goes back):", TermsOneBounds::days);
        s.of("Terms", "all that is done is done on it.", TermsOneBounds::doneOnTheDay);
        s.of("Terms", "WAYS between two TOWNS, both ways alike: a POST, a WIRE, of 0 to 99 DAYS each (none until told).",
            TermsOneBounds::ways);
        s.of("Terms", "A LETTER goes by POSTS alone, NEWS by POSTS and WIRES, from TOWN to TOWN without waiting,",
            TermsOneBounds::lettersAndNews);
        s.of("Terms", "the quickest way there is as it is sent (WAYS told later change nothing of it);",
            TermsOneBounds::quickest);
        s.of("Terms", "it COMES to each TOWN so many DAYS behind its sending (to its own at once), to those without a way never.",
            TermsOneBounds::comesToEach);
        s.of("Terms", "Each TOWN has a COIN (0 to 3; 0 at first) and a RATE: thousandths of its COIN for one of the HOUSE's "
            + "(1 to 100000; 1000 at first).", TermsOneBounds::coinsAndRates);
    }

    private static void towns(Check c) {
        for (int t : new int[] {0, 11}) {
            everyCallTakes(c, t);
        }
        for (int t : NO_TOWNS) {
            noCallTakes(c, t);
        }
    }

    private static void everyCallTakes(Check c, int t) {
        House x = new House();
        x.credit(9, 0, 1);
        c.is("way from " + t, x.way(t, 5, false, 1), 1);
        c.is("way to " + t, x.way(5, t, true, 1), 1);
        c.is("post between 0 and 11", x.post(0, 11, 1), 1);
        c.is("rate of " + t, x.rate(t, 1, 2000), 1);
        c.is("advise to " + t, x.advise(0, t), 0);
        c.is("stop in " + t, x.stop(0, -1, t), 0);
        c.is("text of " + t, x.agent(t, "pay"), 1);
        c.is("rules of " + t, x.count(10 + t), 1);
        c.is("show in " + t, x.show(t, 0, -1, 4, 0, true), 0);
        c.is("advice to " + t, x.comes(0, 0, t), t == 0 ? 0 : 1);
        c.is("stop of " + t, x.comes(1, 0, t), 0);
        x.law("stopped house");
        x.settle(1);
        c.is("due to " + t, x.due(t), 8);
        c.is("send to " + t, x.send(t, 5), t == 0 ? -1 : 5);
    }

    private static void noCallTakes(Check c, int t) {
        House x = new House();
        x.credit(9, 0, 1);
        x.stop(0, -1, 0);
        x.advise(0, 0);
        c.is("way from " + t, x.way(t, 5, false, 1), 0);
        c.is("way to " + t, x.way(5, t, true, 1), 0);
        c.is("rate of " + t, x.rate(t, 1, 2000), 0);
        c.is("advise to " + t, x.advise(0, t), -1);
        c.is("stop in " + t, x.stop(0, -1, t), -1);
        c.is("text of " + t, x.agent(t, "pay"), -1);
        c.is("rules of " + t, x.count(10 + t), -1);
        c.is("show in " + t, x.show(t, 0, -1, 4, 0, true), -1);
        c.is("advice to " + t, x.comes(0, 0, t), -1);
        c.is("stop of " + t, x.comes(1, 0, t), -1);
        x.settle(1);
        c.is("due to " + t, x.due(t), 0);
        c.is("send to " + t, x.send(t, 5), -1);
    }

    private static void townOfTheHouse(Check c) {
        House x = new House();
        x.credit(9, 0, 1);
        x.post(0, 1, 5);
        x.agent(0, "pay");
        x.agent(1, "pay");
        x.advise(0, 0);
        x.advise(0, 1);
        c.is("an advice goes from town 0, to it at once", x.comes(0, 0, 0), 0);
        c.is("to town 1 in 5 days", x.comes(0, 1, 1), 5);
        x.showCredit(0, 0, 1);
        x.showCredit(1, 0, 1);
        c.is("of town 0 the house has the letter at once", x.shown(0, 8), 0);
        c.is("of town 1 in 5 days", x.shown(1, 8), 5);
    }

    private static void days(Check c) {
        House x = new House();
        c.is("day 0 at first", x.count(0), 0);
        c.is("day -1", x.clock(-1), 0);
        c.is("day 0", x.clock(0), 1);
        c.is("day 1", x.clock(1), 1);
        c.is("day 0 again: it never goes back", x.clock(0), 0);
        c.is("still day 1", x.count(0), 1);
        c.is("day 2999", x.clock(2999), 1);
        c.is("day 3001", x.clock(3001), 0);
        c.is("still day 2999", x.count(0), 2999);
        c.is("day 3000", x.clock(3000), 1);
        c.is("day 3000 is told", x.count(0), 3000);
        c.is("day 3001, a day later", x.clock(3001), 0);
        c.is("day 2999 again", x.clock(2999), 0);
        c.is("still day 3000", x.count(0), 3000);
    }

    private static void doneOnTheDay(Check c) {
        for (int day : new int[] {0, 1, 3000}) {
            House x = new House();
            x.post(0, 1, 2);
            x.agent(1, "pay if age=0 and day=" + day);
            x.clock(day);
            x.book(1, 1, 0, 1);
            x.credit(1, 0, 1);
            x.advise(0, 1);
            x.stop(0, -1, 0);
            c.is("shown on " + day, x.showLeaf(1, 0, 0), 0);
            c.is("a book of " + day, x.paper(0, 2), day);
            c.is("a credit of " + day, x.paper(1, 2), day);
            c.is("an advice of " + day, x.comes(0, 0, 1), day + 2);
            c.is("a stop of " + day, x.comes(1, 0, 1), day + 2);
            c.is("what is shown on " + day, x.shown(0, 7), day);
            c.is("a letter of " + day, x.shown(0, 8), day + 2);
        }
    }

    private static void ways(Check c) {
        House y = new House();
        y.credit(1, 0, 1);
        y.stop(0, -1, 4);
        for (int t = 0; t < 12; t++) {
            c.is("no way until told, to " + t, y.comes(1, 0, t), t == 4 ? 0 : -1);
        }
        for (int wire = 0; wire < 2; wire++) {
            for (int days : new int[] {0, 1, 98, 99}) {
                House x = new House();
                x.credit(1, 0, 1);
                c.is("a way of " + days, x.way(2, 7, wire == 1, days), 1);
                x.stop(0, -1, 2);
                x.stop(0, -1, 7);
                c.is("there in " + days, x.comes(1, 0, 7), days);
                c.is("and back in " + days, x.comes(1, 1, 2), days);
            }
            for (int days : new int[] {-1, 100, Integer.MIN_VALUE, Integer.MAX_VALUE}) {
                House x = new House();
                x.credit(1, 0, 1);
                c.is("a way of " + days, x.way(2, 7, wire == 1, days), 0);
                x.stop(0, -1, 2);
                c.is("there is none of " + days, x.comes(1, 0, 7), -1);
            }
        }
    }

    private static void lettersAndNews(Check c) {
        House x = new House();
        x.credit(9, 0, 1);
        x.post(0, 1, 0);
        x.wire(1, 2, 0);
        x.post(2, 3, 99);
        x.advise(0, 1);
        x.advise(0, 2);
        x.stop(0, -1, 0);
        c.is("a letter by a post of 0 days", x.comes(0, 0, 1), 0);
        c.is("no letter by a wire", x.comes(0, 1, 2), -1);
        c.is("news by a post and a wire, without waiting", x.comes(1, 0, 2), 0);
        c.is("news by a post, a wire and a post", x.comes(1, 0, 3), 99);
        for (int t = 1; t < 4; t++) {
            x.agent(t, "pay");
            x.showCredit(t, 0, 1);
        }
        c.is("the letter of town 1", x.shown(0, 8), 0);
        c.is("the letter of town 2: a wire takes none", x.shown(1, 8), -1);
        c.is("the letter of town 3: nor on its way", x.shown(2, 8), -1);
    }

    private static void quickest(Check c) {
        House x = new House();
        x.credit(9, 0, 1);
        x.agent(3, "pay");
        x.post(0, 3, 99);
        x.post(0, 1, 49);
        x.post(1, 3, 50);
        x.advise(0, 3);
        c.is("one step of 99, or 49 and 50", x.comes(0, 0, 3), 99);
        x.post(1, 3, 49);
        x.advise(0, 3);
        x.stop(0, -1, 0);
        x.showCredit(3, 0, 1);
        c.is("49 and 49 are quicker", x.comes(0, 1, 3), 98);
        x.post(1, 3, 0);
        x.wire(0, 3, 0);
        x.post(0, 3, 1);
        c.is("ways told later: the first advice", x.comes(0, 0, 3), 99);
        c.is("ways told later: the second advice", x.comes(0, 1, 3), 98);
        c.is("ways told later: the stop", x.comes(1, 0, 3), 98);
        c.is("ways told later: the letter", x.shown(0, 8), 98);
        x.advise(0, 3);
        x.stop(0, -1, 0);
        x.showCredit(3, 0, 1);
        c.is("sent later: the advice", x.comes(0, 2, 3), 1);
        c.is("sent later: the stop", x.comes(1, 1, 3), 0);
        c.is("sent later: the letter", x.shown(1, 8), 1);
        for (int stride : new int[] {1, 5, 7, 11}) {
            manyWays(c, stride, 0);
            manyWays(c, stride, 7);
        }
    }

    /** Ways between any two TOWNS, the longer the more they leap over: the quickest goes through all between. */
    private static void manyWays(Check c, int stride, int start) {
        House x = new House();
        x.credit(9, 0, 1);
        for (int i = 0; i < 12; i++) {
            for (int j = i + 1; j < 12; j++) {
                int days = Math.min(99, (j - i) * (j - i));
                x.way((start + i * stride) % 12, (start + j * stride) % 12, (i + j) % 4 == 3, days);
            }
        }
        x.stop(0, -1, start);
        for (int j = 0; j < 12; j++) {
            int t = (start + j * stride) % 12;
            x.advise(0, t);
            c.is("news from " + start + " by " + stride + " to " + t, x.comes(1, 0, t), j);
        }
        for (int j = 0; j < 12 && start == 0; j++) {
            // a single step is a wire wherever i + j is 3 of 4, so a letter goes over two at once there
            int t = j * stride % 12;
            c.is("a letter by " + stride + " to " + t, x.comes(0, j, t), lettersAlong(j));
        }
    }

    /** Days by posts of 1, 4 and 9 over one, two and three steps, without the single steps that are wires. */
    private static int lettersAlong(int to) {
        int[] days = new int[12];
        for (int j = 1; j < 12; j++) {
            days[j] = 99;
        }
        for (int round = 0; round < 12; round++) {
            for (int i = 0; i < 12; i++) {
                for (int j = 0; j < 12; j++) {
                    int step = (i + j) % 4 == 3 ? 99 : Math.min(99, (j - i) * (j - i));
                    days[j] = Math.min(days[j], days[i] + step);
                }
            }
        }
        return days[to];
    }

    private static void comesToEach(Check c) {
        House x = new House();
        x.credit(9, 0, 1);
        for (int t = 0; t < 10; t++) {
            x.post(t, t + 1, 99);
        }
        x.clock(3000);
        x.stop(0, -1, 0);
        x.advise(0, 0);
        x.advise(0, 10);
        x.advise(0, 11);
        for (int t = 0; t < 11; t++) {
            c.is("the stop, in " + t, x.comes(1, 0, t), 3000 + 99 * t);
        }
        c.is("the stop, without a way", x.comes(1, 0, 11), -1);
        c.is("an advice to the house's own town", x.comes(0, 0, 0), 3000);
        c.is("an advice along ten ways", x.comes(0, 1, 10), 3990);
        c.is("an advice without a way", x.comes(0, 2, 11), -1);
        x.post(10, 11, 0);
        c.is("a way told too late for the stop", x.comes(1, 0, 11), -1);
        c.is("a way told too late for the advice", x.comes(0, 2, 11), -1);
    }

    private static void coinsAndRates(Check c) {
        for (int coin = 0; coin < 4; coin++) {
            House x = new House();
            x.agent(0, "pay");
            x.credit(100000, 0, 1);
            x.showCredit(0, 0, 100000);
            c.is("1000 thousandths at first", x.shown(0, 6), 100000);
            x.settle(0);
            c.is("coin 0 at first", x.netted(0, 3), 0);
            c.is("coin " + coin, x.rate(0, coin, 1), 1);
            x.settle(0);
            c.is("it has the coin " + coin, x.netted(0, 3), coin);
        }
        long[][] rates = {{1, 1000, 1}, {1, 999, 0}, {2, 500, 1}, {100000, 1, 100}, {100000, 100000, 10000000},
            {99999, 100000, 9999900}, {1000, 100000, 100000}};
        for (long[] r : rates) {
            House x = new House();
            x.agent(0, "pay");
            x.credit(100000, 0, 1);
            c.is("rate " + r[0], x.rate(0, 0, (int) r[0]), 1);
            x.showCredit(0, 0, (int) r[1]);
            c.is("so many of " + r[1], x.shown(0, 6), r[2]);
        }
        wrongCoinsAndRates(c);
    }

    private static void wrongCoinsAndRates(Check c) {
        House x = new House();
        x.agent(0, "pay");
        x.credit(100000, 0, 1);
        x.rate(0, 2, 3000);
        for (int coin : new int[] {-1, 4, Integer.MIN_VALUE, Integer.MAX_VALUE}) {
            c.is("coin " + coin, x.rate(0, coin, 500), 0);
        }
        for (int rate : new int[] {0, -1, 100001, Integer.MIN_VALUE, Integer.MAX_VALUE}) {
            c.is("rate " + rate, x.rate(0, 1, rate), 0);
        }
        x.showCredit(0, 0, 1);
        x.settle(0);
        c.is("the rate that it had", x.shown(0, 6), 3);
        c.is("the coin that it had", x.netted(0, 3), 2);
    }
}
