/** The sentences of promises 16 to 23: shown, paper, comes, settle, settled, due, netted, count. */
final class PromisesThreeBounds {
    private static final int MIN = Integer.MIN_VALUE;
    private static final int MAX = Integer.MAX_VALUE;

    private PromisesThreeBounds() {
    }

    static void all(Sentences s) {
        s.of(16, "Of one SHOWN what 0: TOWN, 1: PAPER, 2: LEAF (NONE), 3: amount, 4: what was done (0 to 2), 5: the RULE that "
            + "did it (NONE), 6: coins that were paid (0), 7: DAY, 8: the DAY on which the HOUSE has its LETTER (NONE: never, "
            + "or not PAID).", PromisesThreeBounds::ofOneShown);
        s.of(16, "NONE without it, or for another what.", PromisesThreeBounds::noneShown);
        s.of(17, "Of a PAPER what 0: LEAVES (0 of a CREDIT), 1: worth or LIMIT, 2: its DAY, 3: NOTED on it, 4: how often PAID "
            + "on it.", PromisesThreeBounds::ofPaper);
        s.of(17, "NONE without it, or for another what.", PromisesThreeBounds::noPaper);
        s.of(18, "The DAY on which a STOP (kind 1) or an ADVICE (0) comes to a TOWN;", PromisesThreeBounds::comes);
        s.of(18, "NONE: never, LOST, none such. (An ADVICE: of its own TOWN alone.)", PromisesThreeBounds::comesNot);
        s.of(19, "SETTLED as KNOWN on a DAY (0 to 3000): how many;", PromisesThreeBounds::howMany);
        s.of(19, "NONE, and nothing happens, for others.", PromisesThreeBounds::wrongSettle);
        s.of(20, "Of SHOWN k in the latest SETTLEMENT what 0: its kind, 1: what the HOUSE bears.", PromisesThreeBounds::settled);
        s.of(20, "NONE ahead of any, if it is not in it, or for another what.", PromisesThreeBounds::notSettled);
        s.of(21, "DUE to a TOWN by it;", PromisesThreeBounds::dueByIt);
        s.of(21, "0 ahead of any, without the TOWN.", PromisesThreeBounds::noDue);
        s.of(22, "Of it, NETTED gift k (coin by coin, in the order told), what 0: who gives (the HOUSE: 12), 1: who gets, 2: how "
            + "much, 3: the COIN.", PromisesThreeBounds::gifts);
        s.of(22, "NONE without it, or for another what.", PromisesThreeBounds::noGift);
        s.of(23, "What 0: the CLOCK, 1: PAPERS, 2: ADVICES, 3: STOPS, 4: SHOWN, 5: bytes of the TAPE, 6: gifts of the latest "
            + "SETTLEMENT; 10 + t: RULES of TOWN t; 30 to 33: the LAW's BEARER of STOPPED, FORGED, TWICE, OVER (0 house, 1 town, "
            + "2 half), 34: hand.", PromisesThreeBounds::counts);
        s.of(23, "NONE for others.", PromisesThreeBounds::noCounts);
    }

    private static House full() {
        House x = new House();
        Twins.FULL.on(x);
        return x;
    }

    private static House busy() {
        House x = new House();
        Twins.BUSY.on(x);
        return x;
    }

    private static void ofOneShown(Check c) {
        long[][] want = {{1, 0, 0, 100, 0, 1, 150, 4, 7}, {2, 0, 0, 100, 0, 0, 70, 4, 11}, {2, 0, 1, 100, 0, 0, 70, 4, 11},
            {2, 1, -1, 700, 0, 0, 490, 4, 11}, {1, 1, -1, 300, 1, 3, 0, 4, -1}, {11, 1, -1, 301, 0, 0, 30099, 4, 4}};
        House x = busy();
        for (int k = 0; k < want.length; k++) {
            for (int what = 0; what <= 8; what++) {
                c.is("shown " + k + " what " + what, x.shown(k, what), want[k][what]);
            }
        }
        House y = new House();
        y.book(20, 1, 0, 1);
        y.showLeaf(0, 0, 19);
        long[] none = {0, 0, 19, 1, 1, -1, 0, 0, -1};
        for (int what = 0; what <= 8; what++) {
            c.is("without a rule, what " + what, y.shown(0, what), none[what]);
        }
        y.agent(5, "ask;pay");
        y.showLeaf(5, 0, 0);
        long[] asked = {5, 0, 0, 1, 2, 0, 0, 0, -1};
        for (int what = 0; what <= 8; what++) {
            c.is("asked, what " + what, y.shown(1, what), asked[what]);
        }
        y.agent(5, "pay");
        y.showLeaf(5, 0, 0);
        c.is("paid, and the letter never comes", y.shown(2, 8), -1);
    }

    private static void noneShown(Check c) {
        House x = busy();
        for (int k : new int[] {-1, 6, 7, 199, 200, 201, MIN, MAX}) {
            for (int what = 0; what <= 8; what++) {
                c.is("shown " + k + " what " + what, x.shown(k, what), -1);
            }
        }
        for (int what : new int[] {-1, 9, 10, MIN, MAX}) {
            c.is("what " + what + " of the first", x.shown(0, what), -1);
            c.is("what " + what + " of the last", x.shown(5, what), -1);
        }
        House y = full();
        c.is("the last of 200", y.shown(199, 0), 1 + 199 % 7 / 6);
        c.is("the one behind", y.shown(200, 0), -1);
        c.is("none of a new house", new House().shown(0, 0), -1);
    }

    private static void ofPaper(Check c) {
        House x = busy();
        long[][] want = {{3, 100, 0, 0, 3}, {0, 1000, 0, 700, 2}};
        for (int k = 0; k < 2; k++) {
            for (int what = 0; what <= 4; what++) {
                c.is("paper " + k + " what " + what, x.paper(k, what), want[k][what]);
            }
        }
        House y = new House();
        y.clock(3000);
        y.book(1, 1, 0, 1);
        y.book(20, 10000, 0, 1);
        y.credit(1, 0, 1);
        y.credit(100000, 0, 1);
        long[][] bounds = {{1, 1, 3000, 0, 0}, {20, 10000, 3000, 0, 0}, {0, 1, 3000, 0, 0}, {0, 100000, 3000, 0, 0}};
        for (int k = 0; k < 4; k++) {
            for (int what = 0; what <= 4; what++) {
                c.is("at its bounds, paper " + k + " what " + what, y.paper(k, what), bounds[k][what]);
            }
        }
    }

    private static void noPaper(Check c) {
        House x = busy();
        for (int k : new int[] {-1, 2, 3, 29, 30, 31, MIN, MAX}) {
            for (int what = 0; what <= 4; what++) {
                c.is("paper " + k + " what " + what, x.paper(k, what), -1);
            }
        }
        for (int what : new int[] {-1, 5, 6, MIN, MAX}) {
            c.is("what " + what + " of the book", x.paper(0, what), -1);
            c.is("what " + what + " of the credit", x.paper(1, what), -1);
        }
        House y = full();
        c.is("the last of 30", y.paper(29, 1), 100000);
        c.is("the one behind", y.paper(30, 1), -1);
        c.is("none of a new house", new House().paper(0, 0), -1);
    }

    private static void comes(Check c) {
        House x = busy();
        c.is("advice 0", x.comes(0, 0, 1), 3);
        c.is("advice 1", x.comes(0, 1, 2), 7);
        long[][] stops = {{4, 7, 5, 7, -1, -1, -1, -1, -1, -1, -1, 4}, {5, 8, 4, 6, -1, -1, -1, -1, -1, -1, -1, 5}};
        for (int k = 0; k < 2; k++) {
            for (int t = 0; t < 12; t++) {
                c.is("stop " + k + " in " + t, x.comes(1, k, t), stops[k][t]);
            }
        }
        House y = full();
        c.is("the last advice", y.comes(0, 58, 1), 99);
        c.is("the last stop, in its town", y.comes(1, 59, 2), 0);
        c.is("the last stop, two ways off", y.comes(1, 59, 0), 198);
    }

    private static void comesNot(Check c) {
        House x = busy();
        for (int t = 0; t < 12; t++) {
            c.is("advice 0, to 1 alone: " + t, x.comes(0, 0, t), t == 1 ? 3 : -1);
            c.is("a lost one, in " + t, x.comes(0, 2, t), -1);
        }
        for (int kind = 0; kind < 2; kind++) {
            int behind = kind == 0 ? 3 : 2;
            for (int k : new int[] {-1, behind, 59, 60, 61, MIN, MAX}) {
                c.is("kind " + kind + ", " + k, x.comes(kind, k, 1), -1);
            }
            for (int t : new int[] {-1, 12, MIN, MAX}) {
                c.is("kind " + kind + ", town " + t, x.comes(kind, 0, t), -1);
            }
            c.is("kind " + kind + " of a new house", new House().comes(kind, 0, 0), -1);
        }
        for (int kind : new int[] {-1, 2, 3, MIN, MAX}) {
            c.is("kind " + kind, x.comes(kind, 0, 1), -1);
        }
        c.is("a stop without a way", x.comes(1, 0, 4), -1);
        x.advise(0, 4);
        c.is("an advice without a way", x.comes(0, 3, 4), -1);
        House y = full();
        c.is("advice 60", y.comes(0, 60, 1), -1);
        c.is("stop 60", y.comes(1, 60, 1), -1);
    }

    private static void howMany(Check c) {
        House x = busy();
        int[][] known = {{0, 0}, {3, 0}, {4, 1}, {6, 1}, {7, 2}, {10, 2}, {11, 5}, {2999, 5}, {3000, 5}, {0, 0}};
        for (int[] k : known) {
            c.is("known on " + k[0], x.settle(k[0]), k[1]);
        }
        c.is("nothing", new House().settle(0), 0);
        c.is("nothing, on the last day", new House().settle(3000), 0);
        House y = full();
        c.is("all that is paid, ahead", y.settle(98), 0);
        c.is("all that is paid", y.settle(99), 172);
    }

    private static void wrongSettle(Check c) {
        int[][] wrong = {{-1, 3001, MIN, MAX}};
        Twins.eachWrong(c, "settle", (x, a) -> x.settle(a[0]), new int[] {0}, wrong, -1);
        House x = busy();
        c.is("the settlement stays", x.settled(0, 0), 0);
        x.settle(3001);
        c.is("behind a wrong one", x.settled(0, 0), 0);
        House y = new House();
        y.agent(0, "pay");
        y.credit(9, 0, 1);
        y.showCredit(0, 0, 5);
        y.settle(-1);
        c.is("a wrong one alone is none", y.settled(0, 0), -1);
        c.is("a wrong one alone: due", y.due(0), 0);
        c.is("a wrong one alone: gifts", y.count(6), 0);
    }

    private static void settled(Check c) {
        House x = busy();
        x.settle(11);
        long[][] want = {{0, 150}, {3, 35}, {2, 0}, {1, 0}, {-1, -1}, {4, 15049}};
        for (int k = 0; k < want.length; k++) {
            c.is("kind of " + k, x.settled(k, 0), want[k][0]);
            c.is("borne of " + k, x.settled(k, 1), want[k][1]);
        }
        x.settle(4);
        for (int k = 0; k < want.length; k++) {
            c.is("the latest alone, kind of " + k, x.settled(k, 0), k == 5 ? 0 : -1);
            c.is("the latest alone, borne of " + k, x.settled(k, 1), k == 5 ? 30099 : -1);
        }
    }

    private static void notSettled(Check c) {
        House x = new House();
        x.agent(0, "pay if amount=1;ask");
        x.credit(9, 0, 1);
        x.showCredit(0, 0, 1);
        x.showCredit(0, 0, 2);
        for (int what = 0; what < 2; what++) {
            c.is("ahead of any, what " + what, x.settled(0, what), -1);
        }
        x.settle(0);
        c.is("it is in it", x.settled(0, 0), 0);
        for (int k : new int[] {-1, 1, 2, 199, 200, 201, MIN, MAX}) {
            c.is("not in it, kind of " + k, x.settled(k, 0), -1);
            c.is("not in it, borne of " + k, x.settled(k, 1), -1);
        }
        for (int what : new int[] {-1, 2, 3, MIN, MAX}) {
            c.is("what " + what, x.settled(0, what), -1);
        }
        x.showCredit(0, 0, 1);
        c.is("shown later", x.settled(2, 0), -1);
        House y = full();
        c.is("the last of 200", y.settled(199, 1) >= 0, true);
        c.is("the one behind", y.settled(200, 0), -1);
    }

    private static void dueByIt(Check c) {
        House x = busy();
        x.settle(11);
        for (int t = 0; t < 12; t++) {
            c.is("due to " + t, x.due(t), t == 1 ? 100 : t == 2 ? -4965 : t == 11 ? 15049 : 0);
        }
        x.send(1, 1000000);
        x.law("twice town");
        x.showCredit(11, 1, 1);
        c.is("by it: later calls change nothing, 1", x.due(1), 100);
        c.is("by it: later calls change nothing, 2", x.due(2), -4965);
        c.is("by it: later calls change nothing, 11", x.due(11), 15049);
        x.settle(0);
        c.is("the latest, 1", x.due(1), -1000050);
        c.is("the latest, 11", x.due(11), 0);
    }

    private static void noDue(Check c) {
        House x = new House();
        x.agent(0, "pay");
        x.credit(9, 0, 1);
        x.showCredit(0, 0, 1);
        x.send(1, 5);
        for (int t = -1; t <= 12; t++) {
            c.is("ahead of any, " + t, x.due(t), 0);
        }
        x.settle(0);
        c.is("the first town", x.due(0), 1);
        c.is("another", x.due(1), -5);
        for (int t : new int[] {-1, 12, 13, MIN, MAX}) {
            c.is("town " + t, x.due(t), 0);
        }
    }

    private static void gifts(Check c) {
        House x = busy();
        x.settle(11);
        long[][] want = {{2, 1, 100, 1}, {2, 12, 4865, 1}, {12, 11, 15049, 3}};
        for (int k = 0; k < want.length; k++) {
            for (int what = 0; what < 4; what++) {
                c.is("gift " + k + " what " + what, x.netted(k, what), want[k][what]);
            }
        }
        c.is("three gifts", x.count(6), 3);
        House y = new House();
        for (int t = 1; t < 12; t++) {
            y.rate(t, 3 - t % 4, 1);
            y.send(t, 1000000);
        }
        y.settle(0);
        int k = 0;
        for (int coin = 0; coin < 4; coin++) {
            for (int t = 1; t < 12; t++) {
                if (3 - t % 4 == coin) {
                    c.is("coin by coin, town by town: who gives " + k, y.netted(k, 0), t);
                    c.is("the house gets " + k, y.netted(k, 1), 12);
                    c.is("all of it " + k, y.netted(k, 2), 1000000);
                    c.is("of its coin " + k, y.netted(k, 3), coin);
                    k++;
                }
            }
        }
        c.is("eleven gifts", y.count(6), 11);
    }

    private static void noGift(Check c) {
        House x = new House();
        x.send(1, 5);
        for (int what = 0; what < 4; what++) {
            c.is("ahead of any, what " + what, x.netted(0, what), -1);
        }
        x.settle(0);
        c.is("the one gift", x.netted(0, 2), 5);
        for (int k : new int[] {-1, 1, 2, 11, 12, 13, MIN, MAX}) {
            for (int what = 0; what < 4; what++) {
                c.is("gift " + k + " what " + what, x.netted(k, what), -1);
            }
        }
        for (int what : new int[] {-1, 4, 5, MIN, MAX}) {
            c.is("what " + what, x.netted(0, what), -1);
        }
        House y = new House();
        y.settle(3000);
        c.is("a settlement without gifts", y.netted(0, 0), -1);
    }

    private static void counts(Check c) {
        House x = full();
        long[] most = {3000, 30, 60, 60, 200, 300, 1};
        for (int what = 0; what <= 6; what++) {
            c.is("full, count " + what, x.count(what), most[what]);
        }
        long[] law = {2, 2, 2, 0, 99};
        for (int k = 0; k < 5; k++) {
            c.is("full, count " + (30 + k), x.count(30 + k), law[k]);
        }
        for (int t = 0; t < 12; t++) {
            c.is("full, rules of " + t, x.count(10 + t), t == 1 ? 12 : t == 2 ? 1 : 0);
        }
        House y = new House();
        for (int t = 0; t < 12; t++) {
            y.agent(t, "ask" + ";ask".repeat(t));
            c.is("rules of " + t, y.count(10 + t), t + 1);
        }
        y.law("stopped house;forged town;twice half;over town;hand 0");
        long[] others = {0, 1, 2, 1, 0};
        for (int k = 0; k < 5; k++) {
            c.is("count " + (30 + k), y.count(30 + k), others[k]);
        }
        for (int what = 0; what <= 6; what++) {
            c.is("nothing, count " + what, new House().count(what), 0);
        }
    }

    private static void noCounts(Check c) {
        for (House x : new House[] {new House(), busy(), full()}) {
            for (int what : new int[] {-1, 7, 8, 9, 22, 23, 29, 35, 36, MIN, MAX, MIN + 10, MAX - 10}) {
                c.is("count " + what, x.count(what), -1);
            }
        }
    }
}
