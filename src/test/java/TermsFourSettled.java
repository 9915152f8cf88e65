/** The sentences of the Terms' part IV on what is SETTLED, DUE, SENT and NETTED. */
final class TermsFourSettled {
    private TermsFourSettled() {
    }

    static void all(Sentences s) {
        s.of("Terms", "SETTLED as KNOWN on a DAY K: all PAID ones whose LETTERS have come to TOWN 0 by K, by numbers.",
            TermsFourSettled::known);
        s.of("Terms", "Each is of the first kind that holds:", TermsFourSettled::firstKind);
        s.of("Terms", "1 STOPPED: a STOP had come to its TOWN by its DAY;", TermsFourSettled::stopped);
        s.of("Terms", "2 FORGED: its HAND is UNLIKE the PAPER's by hand's NUMBER or more;", TermsFourSettled::forged);
        s.of("Terms", "3 TWICE: another one of its LEAF that is settled with a lesser number (of whatever kind);",
            TermsFourSettled::twice);
        s.of("Terms", "4 OVER: of a CREDIT: the amounts of those settled with lesser numbers and its own are above the LIMIT; "
            + "else 0 GOOD.", TermsFourSettled::over);
        s.of("Terms", "The HOUSE bears what is GOOD; of others by the law: all, nothing, or half (of the TOWN's coins, downwards).",
            TermsFourSettled::shares);
        s.of("Terms", "DUE to a TOWN: what the HOUSE bears of its payments, less what was SENT to it", TermsFourSettled::due);
        s.of("Terms", "(1 to 1000000 of its COIN, by the HOUSE; known at once).", TermsFourSettled::sent);
        s.of("Terms", "NETTED, coin by coin: TOWNS with a DUE above 0 get, those below 0 give:", TermsFourSettled::coinByCoin);
        s.of("Terms", "the least that gives to the least that gets, as much as both have, and so on;", TermsFourSettled::leastToLeast);
        s.of("Terms", "what is left over the HOUSE gives or gets, TOWN by TOWN.", TermsFourSettled::leftOver);
        s.of("Terms", "(TOWNS are of the COIN that they have now.)", TermsFourSettled::coinsNow);
        s.of("Terms", "`NONE = -1`: None.", c -> c.is("NONE", NoteHouse.NONE, -1));
    }

    /** TOWNS 0 to 11 pay; a POST of so many days as its number from each to the HOUSE; PAPER 0 is a CREDIT. */
    private static House paying() {
        House x = new House();
        for (int t = 0; t < 12; t++) {
            x.agent(t, "pay");
            x.post(0, t, t);
        }
        x.credit(100000, 0, 2000);
        return x;
    }

    private static void known(Check c) {
        House x = paying();
        x.clock(10);
        x.showCredit(2, 0, 1);
        x.showCredit(1, 0, 2);
        x.showCredit(0, 0, 3);
        long[] many = {0, 1, 2, 3, 3};
        for (int day = 9; day <= 13; day++) {
            c.is("known on " + day, x.settle(day), many[day - 9]);
            for (int k = 0; k < 3; k++) {
                c.is("shown " + k + ", known on " + day, x.settled(k, 1), day >= 12 - k ? k + 1 : -1);
            }
        }
        c.is("known on 0", x.settle(0), 0);
        c.is("known on 3000", x.settle(3000), 3);
        House y = paying();
        y.agent(1, "ask");
        y.agent(2, "refuse");
        y.showCredit(1, 0, 1);
        y.showCredit(2, 0, 1);
        c.is("asked and refused ones are not", y.settle(3000), 0);
        House z = new House();
        c.is("nothing is shown", z.settle(3000), 0);
    }

    private static void firstKind(Check c) {
        House x = paying();
        x.book(2, 10, 0, 9);
        x.credit(10, 0, 9);
        x.showLeaf(1, 1, 0);
        x.showCredit(1, 2, 10);
        x.stop(1, -1, 0);
        x.stop(2, -1, 0);
        x.show(0, 1, 0, 0, 99999, true);
        x.show(0, 2, -1, 10, 99999, true);
        x.show(1, 1, 0, 0, 99999, true);
        x.show(1, 2, -1, 10, 99999, true);
        x.showLeaf(1, 1, 0);
        x.showCredit(1, 2, 1);
        x.settle(9);
        long[] kinds = {0, 0, 1, 1, 2, 2, 3, 4};
        for (int k = 0; k < kinds.length; k++) {
            c.is("the first kind of " + k, x.settled(k, 0), kinds[k]);
        }
    }

    private static void stopped(Check c) {
        House x = paying();
        x.book(2, 10, 0, 9);
        x.clock(5);
        x.stop(1, 0, 0);
        x.stop(0, -1, 0);
        x.clock(7);
        x.showLeaf(3, 1, 0);
        x.showCredit(3, 0, 1);
        x.clock(8);
        x.showLeaf(3, 1, 0);
        x.showCredit(3, 0, 1);
        x.showLeaf(3, 1, 1);
        x.showLeaf(4, 1, 1);
        x.clock(9);
        x.showLeaf(3, 1, 0);
        x.settle(3000);
        long[] kinds = {0, 0, 1, 1, 0, 3, 1};
        for (int k = 0; k < kinds.length; k++) {
            c.is("a stop that comes on day 8, of " + k, x.settled(k, 0), kinds[k]);
        }
        stopsTooLate(c);
    }

    private static void stopsTooLate(Check c) {
        House x = paying();
        x.clock(5);
        x.showCredit(3, 0, 1);
        x.clock(6);
        x.stop(0, -1, 3);
        x.settle(3000);
        c.is("a stop told the day behind", x.settled(0, 0), 0);
        House y = new House();
        y.credit(9, 0, 9);
        y.agent(0, "pay");
        y.stop(0, -1, 5);
        y.clock(3000);
        y.showCredit(0, 0, 1);
        y.settle(3000);
        c.is("a stop that never comes", y.settled(0, 0), 0);
        House z = paying();
        z.stop(0, -1, 0);
        z.showCredit(3, 0, 1);
        z.settle(3000);
        c.is("a stop that comes behind its day, though known then", z.settled(0, 0), 0);
    }

    private static void forged(Check c) {
        int[][] cases = {{0, 10, 0}, {9, 10, 0}, {19, 10, 2}, {91, 10, 2}, {99999, 45, 2}, {99999, 46, 0}, {99998, 45, 0},
            {0, 0, 2}, {0, 1, 0}, {1, 1, 2}};
        for (int[] k : cases) {
            House x = paying();
            x.law("hand " + k[1]);
            x.show(1, 0, -1, 1, k[0], true);
            x.settle(1);
            c.is("hand " + k[0] + " by a law of " + k[1], x.settled(0, 0), k[2]);
        }
        House x = paying();
        x.advise(0, 1);
        x.show(1, 0, -1, 1, 99999, true);
        x.clock(1);
        x.show(1, 0, -1, 1, 99999, true);
        x.settle(9);
        c.is("forged, though no advice had come", x.settled(0, 0), 2);
        c.is("forged, as one had", x.settled(1, 0), 2);
    }

    private static void twice(Check c) {
        House x = paying();
        x.book(20, 10, 0, 9);
        x.book(20, 10, 0, 9);
        x.showLeaf(5, 1, 0);
        x.showLeaf(1, 1, 0);
        x.showLeaf(1, 1, 19);
        x.showLeaf(1, 2, 0);
        x.showLeaf(1, 1, 0);
        x.settle(4);
        long[] early = {-1, 0, 0, 0, 3};
        for (int k = 0; k < early.length; k++) {
            c.is("ahead of the first letter, of " + k, x.settled(k, 0), early[k]);
        }
        x.settle(5);
        long[] late = {0, 3, 0, 0, 3};
        for (int k = 0; k < late.length; k++) {
            c.is("with the first letter, of " + k, x.settled(k, 0), late[k]);
        }
        House y = paying();
        y.book(1, 10, 0, 9);
        y.show(1, 1, 0, 0, 99999, true);
        y.showLeaf(1, 1, 0);
        y.showCredit(1, 0, 1);
        y.showCredit(1, 0, 1);
        y.settle(1);
        c.is("behind one of another kind", y.settled(1, 0), 3);
        c.is("a credit is never twice", y.settled(3, 0), 0);
        behindOneThatWasNotPaid(c);
    }

    private static void behindOneThatWasNotPaid(Check c) {
        House x = paying();
        x.book(1, 10, 0, 9);
        x.agent(1, "ask");
        x.agent(2, "refuse");
        x.showLeaf(1, 1, 0);
        x.showLeaf(2, 1, 0);
        x.showLeaf(0, 1, 0);
        x.settle(9);
        c.is("asked and refused ones do not count", x.settled(2, 0), 0);
    }

    private static void over(Check c) {
        int[][] cases = {{99999, 0}, {100000, 0}};
        for (int[] k : cases) {
            House x = paying();
            x.show(1, 0, -1, k[0], 0, false);
            x.settle(1);
            c.is("its own amount of " + k[0], x.settled(0, 0), k[1]);
            x.show(1, 0, -1, 1, 0, false);
            x.settle(1);
            c.is("one more behind " + k[0], x.settled(1, 0), k[0] == 99999 ? 0 : 4);
            x.show(1, 0, -1, 1, 0, false);
            x.settle(1);
            c.is("two more behind " + k[0], x.settled(2, 0), 4);
        }
        House y = paying();
        y.credit(1, 0, 1);
        y.credit(99999, 0, 1);
        y.showCredit(1, 1, 1);
        y.showCredit(1, 1, 1);
        y.showCredit(1, 2, 100000);
        y.settle(1);
        c.is("a limit of 1", y.settled(0, 0), 0);
        c.is("a limit of 1, again", y.settled(1, 0), 4);
        c.is("its own amount is above", y.settled(2, 0), 4);
        overByOthers(c);
    }

    private static void overByOthers(Check c) {
        House x = paying();
        x.credit(10, 0, 9);
        x.showCredit(9, 1, 4);
        x.show(1, 1, -1, 3, 99999, true);
        x.showCredit(1, 0, 100);
        x.showCredit(1, 1, 7);
        x.showCredit(1, 1, 1);
        x.settle(1);
        long[] early = {-1, 2, 0, 0, 4};
        for (int k = 0; k < early.length; k++) {
            c.is("10 in all, of " + k, x.settled(k, 0), early[k]);
        }
        x.settle(9);
        long[] late = {0, 2, 0, 4, 4};
        for (int k = 0; k < late.length; k++) {
            c.is("with a letter more, of " + k, x.settled(k, 0), late[k]);
        }
    }

    private static void shares(Check c) {
        String[] bearers = {"house", "town", "half"};
        int[] amounts = {1, 2, 3, 100000};
        for (int amount : amounts) {
            for (int b = 0; b < 3; b++) {
                House x = paying();
                x.rate(1, 0, 1500);
                x.law("hand 0;forged " + bearers[b]);
                x.showCredit(1, 0, amount);
                x.settle(1);
                long coins = amount * 3L / 2;
                c.is(bearers[b] + " of " + coins, x.settled(0, 1), b == 0 ? coins : b == 1 ? 0 : coins / 2);
                c.is("so much is due", x.due(1), b == 0 ? coins : b == 1 ? 0 : coins / 2);
                x.law(" ");
                x.settle(1);
                c.is("all of what is good", x.settled(0, 1), coins);
            }
        }
        House x = paying();
        x.rate(1, 0, 100000);
        x.law("hand 0;forged half");
        x.showCredit(1, 0, 100000);
        x.settle(1);
        c.is("half of the most", x.settled(0, 1), 5000000);
    }

    private static void due(Check c) {
        House x = paying();
        x.settle(0);
        for (int t = 0; t < 12; t++) {
            c.is("nothing is due to " + t, x.due(t), 0);
        }
        x.showCredit(1, 0, 10);
        x.showCredit(11, 0, 20);
        x.showCredit(1, 0, 5);
        x.send(1, 15);
        x.send(2, 1);
        x.settle(10);
        c.is("even", x.due(1), 0);
        c.is("sent alone", x.due(2), -1);
        c.is("not yet known", x.due(11), 0);
        x.settle(11);
        c.is("known", x.due(11), 20);
        x.send(1, 1);
        x.settle(11);
        c.is("one more than is borne", x.due(1), -1);
        theMostDue(c);
    }

    /** 200 payments of the most coins: as much as a TOWN can ever be due. */
    private static void theMostDue(Check c) {
        House x = new House();
        x.agent(0, "pay");
        x.rate(0, 0, 100000);
        x.credit(100000, 0, 2000);
        x.law("over house");
        for (int k = 0; k < 200; k++) {
            x.showCredit(0, 0, 100000);
        }
        x.settle(0);
        c.is("the most that is due", x.due(0), 2000000000L);
        c.is("in one gift", x.netted(0, 2), 2000000000L);
        c.is("the last is over", x.settled(199, 0), 4);
        c.is("noted in all", x.paper(0, 3), 20000000);
    }

    private static void sent(Check c) {
        House x = paying();
        c.is("0", x.send(1, 0), -1);
        c.is("1", x.send(1, 1), 1);
        c.is("1000000", x.send(1, 1000000), 1000001);
        c.is("1000001", x.send(1, 1000001), -1);
        c.is("to the last town", x.send(11, 999999), 999999);
        x.settle(0);
        c.is("known at once, far away", x.due(11), -999999);
        c.is("known at once", x.due(1), -1000001);
        House y = new House();
        y.send(7, 3);
        y.settle(0);
        c.is("known at once, without a way", y.due(7), -3);
        House z = new House();
        z.clock(3000);
        z.send(7, 3);
        z.settle(0);
        c.is("known on any day", z.due(7), -3);
    }

    private static void gifts(Check c, House x, String name, long[]... want) {
        c.is(name + ": gifts", x.count(6), want.length);
        for (int k = 0; k < want.length; k++) {
            for (int what = 0; what < 4; what++) {
                c.is(name + ": gift " + k + ", what " + what, x.netted(k, what), want[k][what]);
            }
        }
        c.is(name + ": none behind", x.netted(want.length, 0), -1);
    }

    private static void coinByCoin(Check c) {
        House x = paying();
        x.rate(1, 3, 1000);
        x.rate(2, 3, 1000);
        x.rate(3, 1, 1000);
        x.rate(4, 1, 1000);
        x.showCredit(1, 0, 5);
        x.send(2, 5);
        x.send(3, 7);
        x.showCredit(4, 0, 7);
        x.showCredit(5, 0, 1);
        x.rate(6, 2, 1000);
        x.send(6, 1);
        x.settle(9);
        gifts(c, x, "coins 0 to 3", new long[] {12, 5, 1, 0}, new long[] {3, 4, 7, 1}, new long[] {6, 12, 1, 2},
            new long[] {2, 1, 5, 3});
        House y = paying();
        y.showCredit(1, 0, 5);
        y.send(1, 5);
        y.settle(9);
        gifts(c, y, "a due of 0 neither gives nor gets");
        House z = new House();
        gifts(c, z, "ahead of any");
        z.settle(0);
        gifts(c, z, "nothing at all");
    }

    private static void leastToLeast(Check c) {
        House x = paying();
        x.showCredit(1, 0, 3);
        x.showCredit(3, 0, 10);
        x.showCredit(11, 0, 1);
        x.send(2, 4);
        x.send(4, 9);
        x.send(10, 1);
        x.settle(11);
        gifts(c, x, "in turn", new long[] {2, 1, 3, 0}, new long[] {2, 3, 1, 0}, new long[] {4, 3, 9, 0},
            new long[] {10, 11, 1, 0});
        House y = paying();
        y.showCredit(0, 0, 2);
        y.send(11, 1);
        y.send(10, 1);
        y.settle(0);
        gifts(c, y, "town 0 gets too", new long[] {10, 0, 1, 0}, new long[] {11, 0, 1, 0});
        House z = paying();
        z.showCredit(1, 0, 100);
        z.showCredit(2, 0, 1);
        z.send(3, 1);
        z.send(4, 100);
        z.settle(9);
        gifts(c, z, "by towns, not by what they have", new long[] {3, 1, 1, 0}, new long[] {4, 1, 99, 0},
            new long[] {4, 2, 1, 0});
    }

    private static void leftOver(Check c) {
        House x = paying();
        x.showCredit(3, 0, 5);
        x.showCredit(1, 0, 6);
        x.send(2, 1);
        x.settle(9);
        gifts(c, x, "the house gives", new long[] {2, 1, 1, 0}, new long[] {12, 1, 5, 0}, new long[] {12, 3, 5, 0});
        House y = paying();
        y.showCredit(5, 0, 1);
        y.send(9, 3);
        y.send(7, 2);
        y.send(8, 1);
        y.settle(9);
        gifts(c, y, "the house gets", new long[] {7, 5, 1, 0}, new long[] {7, 12, 1, 0}, new long[] {8, 12, 1, 0},
            new long[] {9, 12, 3, 0});
        House z = paying();
        for (int t = 0; t < 12; t++) {
            z.rate(t, t % 4, 1000);
            z.showCredit(t, 0, t + 1);
        }
        z.settle(11);
        c.is("to all twelve", z.count(6), 12);
        for (int k = 0; k < 12; k++) {
            int t = k / 3 + k % 3 * 4;
            c.is("gift " + k + " to", z.netted(k, 1), t);
            c.is("gift " + k + " of", z.netted(k, 2), t + 1);
            c.is("gift " + k + " in", z.netted(k, 3), t % 4);
        }
        c.is("none behind twelve", z.netted(12, 0), -1);
    }

    private static void coinsNow(Check c) {
        House x = paying();
        x.rate(1, 3, 2000);
        x.showCredit(1, 0, 5);
        x.send(2, 4);
        x.settle(9);
        gifts(c, x, "of two coins", new long[] {2, 12, 4, 0}, new long[] {12, 1, 10, 3});
        x.rate(2, 3, 1);
        x.settle(9);
        gifts(c, x, "of one coin now", new long[] {2, 1, 4, 3}, new long[] {12, 1, 6, 3});
        x.rate(1, 0, 1);
        x.settle(9);
        gifts(c, x, "of two again, as much as was paid", new long[] {12, 1, 10, 0}, new long[] {2, 12, 4, 3});
    }
}
