/** The sentences of promises 1 to 9: a new object, clock, way, rate, book, credit, advise, lose, stop. */
final class PromisesOneBounds {
    static final int MIN = Integer.MIN_VALUE;
    static final int MAX = Integer.MAX_VALUE;
    static final int[] NO_TOWNS = {-1, 12, MIN, MAX};
    static final int[] FINE = {};

    private PromisesOneBounds() {
    }

    static void all(Sentences s) {
        s.of(1, "DAY 0; no WAYS, no PAPERS.", PromisesOneBounds::newObject);
        s.of(2, "The CLOCK tells its own or a later DAY: true;", PromisesOneBounds::laterDays);
        s.of(2, "false, and nothing happens, for others.", PromisesOneBounds::wrongDays);
        s.of(3, "A POST (wire false) or WIRE between two TOWNS, anew if there was one: true;", PromisesOneBounds::waysAnew);
        s.of(3, "false, and nothing happens: both one, or something not as told.", PromisesOneBounds::wrongWays);
        s.of(4, "A TOWN's COIN and RATE from now on: true;", PromisesOneBounds::ratesFromNowOn);
        s.of(4, "false, and nothing happens, for others.", PromisesOneBounds::wrongRates);
        s.of(5, "A BOOK is made today: its number;", PromisesOneBounds::bookToday);
        s.of(5, "NONE: there are 30, or something is not as told.", PromisesOneBounds::wrongBooks);
        s.of(6, "A CREDIT likewise.", PromisesOneBounds::creditLikewise);
        s.of(7, "An ADVICE of a PAPER to a TOWN is sent today: its number;", PromisesOneBounds::adviceToday);
        s.of(7, "NONE: there are 60, none such PAPER or TOWN.", PromisesOneBounds::wrongAdvices);
        s.of(8, "An ADVICE is LOST: true;", PromisesOneBounds::adviceLost);
        s.of(8, "false, and nothing happens: none such, LOST already, or it has come by today.", PromisesOneBounds::notLost);
        s.of(9, "A STOP of a PAPER (leaf NONE) or a LEAF is told in a TOWN today: its number;", PromisesOneBounds::stopToday);
        s.of(9, "NONE: there are 60, or none such.", PromisesOneBounds::wrongStops);
    }

    private static void newObject(Check c) {
        House x = new House();
        for (int what = 0; what <= 6; what++) {
            c.is("count " + what, x.count(what), 0);
        }
        for (int t = 0; t < 12; t++) {
            c.is("no rules of " + t, x.count(10 + t), 0);
            c.is("nothing due to " + t, x.due(t), 0);
        }
        for (int what = 0; what <= 9; what++) {
            c.is("no paper, what " + what, x.paper(0, what), -1);
            c.is("nothing shown, what " + what, x.shown(0, what), -1);
            c.is("nothing settled, what " + what, x.settled(0, what), -1);
            c.is("nothing netted, what " + what, x.netted(0, what), -1);
        }
        for (int t = 0; t < 12; t++) {
            c.is("no advice to " + t, x.comes(0, 0, t), -1);
            c.is("no stop in " + t, x.comes(1, 0, t), -1);
            c.is("no advice of no paper", x.advise(0, t), -1);
            c.is("no stop of no paper", x.stop(0, -1, t), -1);
            c.is("nothing of no paper is shown", x.show(t, 0, -1, 1, 0, true), -1);
        }
        noWays(c);
    }

    private static void noWays(Check c) {
        House x = new House();
        x.credit(1, 0, 1);
        for (int t = 0; t < 12; t++) {
            x.stop(0, -1, t);
            x.advise(0, t);
            c.is("an advice to " + t, x.comes(0, t, t), t == 0 ? 0 : -1);
            for (int to = 0; to < 12; to++) {
                c.is("a stop of " + t + " in " + to, x.comes(1, t, to), t == to ? 0 : -1);
            }
        }
        House y = new House();
        y.credit(1, 0, 1);
        for (int t = 0; t < 12; t++) {
            y.agent(t, "pay");
            y.showCredit(t, 0, 1);
            c.is("a letter of " + t, y.shown(t, 8), t == 0 ? 0 : -1);
        }
    }

    private static void laterDays(Check c) {
        House x = new House();
        for (int day : new int[] {0, 0, 1, 1, 2, 2999, 2999, 3000, 3000}) {
            c.is("day " + day, x.clock(day), 1);
            c.is("it is " + day, x.count(0), day);
        }
        House y = new House();
        c.is("from 0 to 3000", y.clock(3000), 1);
        c.is("it is 3000", y.count(0), 3000);
    }

    private static void wrongDays(Check c) {
        int[][] wrong = {{-1, 3001, MIN, MAX}};
        Twins.eachWrong(c, "clock", (x, a) -> x.clock(a[0]), new int[] {0}, wrong, 0);
        Twins.refused(c, "the day ahead of 4", Twins.BUSY, x -> x.clock(3), 0);
        Twins.refused(c, "day 0 behind 4", Twins.BUSY, x -> x.clock(0), 0);
        Twins.refused(c, "the day ahead of 3000", Twins.FULL, x -> x.clock(2999), 0);
        Twins.refused(c, "the last day's own", Twins.FULL, x -> x.clock(3000), 1);
    }

    private static void waysAnew(Check c) {
        for (int wire = 0; wire < 2; wire++) {
            boolean isWire = wire == 1;
            House x = new House();
            x.credit(1, 0, 1);
            int k = 0;
            for (int days : new int[] {5, 99, 0, 7, 7}) {
                c.is("a way of " + days, k % 2 == 0 ? x.way(0, 11, isWire, days) : x.way(11, 0, isWire, days), 1);
                x.stop(0, -1, 0);
                x.stop(0, -1, 11);
                x.advise(0, 11);
                c.is("news by it", x.comes(1, 2 * k, 11), days);
                c.is("news back", x.comes(1, 2 * k + 1, 0), days);
                c.is("a letter by it", x.comes(0, k, 11), isWire ? -1 : days);
                k++;
            }
        }
        House x = new House();
        x.credit(1, 0, 1);
        x.post(0, 1, 9);
        x.wire(0, 1, 3);
        x.advise(0, 1);
        x.stop(0, -1, 0);
        c.is("the wire leaves the post", x.comes(0, 0, 1), 9);
        c.is("news goes by the wire", x.comes(1, 0, 1), 3);
        x.wire(0, 1, 99);
        x.stop(0, -1, 0);
        c.is("the slower wire leaves the post", x.comes(1, 1, 1), 9);
        x.post(0, 1, 0);
        x.wire(0, 1, 1);
        x.stop(0, -1, 0);
        c.is("the quicker post", x.comes(1, 2, 1), 0);
    }

    private static void wrongWays(Check c) {
        int[][] wrong = {NO_TOWNS, NO_TOWNS, FINE, {-1, 100, MIN, MAX}};
        for (int wire = 0; wire < 2; wire++) {
            Twins.eachWrong(c, "way", (x, a) -> x.way(a[0], a[1], a[2] == 1, a[3]), new int[] {0, 1, wire, 5}, wrong, 0);
            int[][] same = {{0}, FINE, FINE, FINE};
            for (int t : new int[] {0, 1, 11}) {
                same[0] = new int[] {t};
                Twins.eachWrong(c, "way", (x, a) -> x.way(a[0], a[1], a[2] == 1, a[3]), new int[] {t, t, wire, 5}, same, 0);
            }
        }
    }

    private static void ratesFromNowOn(Check c) {
        House x = new House();
        x.credit(100000, 0, 1);
        x.agent(0, "pay");
        int[][] rates = {{0, 1}, {3, 100000}, {1, 1}, {2, 1000}, {2, 1000}};
        for (int k = 0; k < rates.length; k++) {
            c.is("rate " + rates[k][1], x.rate(0, rates[k][0], rates[k][1]), 1);
            x.showCredit(0, 0, 1000);
            c.is("paid by it", x.shown(k, 6), rates[k][1]);
            for (int j = 0; j <= k; j++) {
                c.is("what was paid stays, " + j, x.shown(j, 6), rates[j][1]);
            }
            x.settle(0);
            c.is("its coin", x.netted(0, 3), rates[k][0]);
        }
        x.agent(1, "pay");
        x.showCredit(1, 0, 1000);
        c.is("another town keeps its own", x.shown(rates.length, 6), 1000);
    }

    private static void wrongRates(Check c) {
        int[][] wrong = {NO_TOWNS, {-1, 4, MIN, MAX}, {0, -1, 100001, MIN, MAX}};
        for (int town : new int[] {0, 1, 2, 11}) {
            Twins.eachWrong(c, "rate", (x, a) -> x.rate(a[0], a[1], a[2]), new int[] {town, 2, 5}, wrong, 0);
        }
    }

    private static void bookToday(Check c) {
        House x = new House();
        for (int k = 0; k < 30; k++) {
            x.clock(100 * k);
            c.is("book " + k, x.book(k % 20 + 1, k + 1, 0, 1), k);
            c.is("its leaves", x.paper(k, 0), k % 20 + 1);
            c.is("its worth", x.paper(k, 1), k + 1);
            c.is("its day", x.paper(k, 2), 100 * k);
            c.is("nothing noted", x.paper(k, 3), 0);
            c.is("nothing paid", x.paper(k, 4), 0);
        }
    }

    private static void wrongBooks(Check c) {
        int[][] wrong = {{0, 21, -1, MIN, MAX}, {0, 10001, -1, MIN, MAX}, {-1, 100000, MIN, MAX}, {0, 2001, -1, MIN, MAX}};
        Twins.eachWrong(c, "book", (x, a) -> x.book(a[0], a[1], a[2], a[3]), new int[] {5, 50, 500, 50}, wrong, -1);
        Twins.refused(c, "a 31st book", Twins.FULL, x -> x.book(1, 1, 0, 1), -1);
    }

    private static void creditLikewise(Check c) {
        House x = new House();
        for (int k = 0; k < 30; k++) {
            x.clock(100 * k);
            c.is("credit " + k, x.credit(k + 1, 0, 1), k);
            c.is("no leaves", x.paper(k, 0), 0);
            c.is("its limit", x.paper(k, 1), k + 1);
            c.is("its day", x.paper(k, 2), 100 * k);
            c.is("nothing noted", x.paper(k, 3), 0);
            c.is("nothing paid", x.paper(k, 4), 0);
        }
        int[][] wrong = {{0, 100001, -1, MIN, MAX}, {-1, 100000, MIN, MAX}, {0, 2001, -1, MIN, MAX}};
        Twins.eachWrong(c, "credit", (y, a) -> y.credit(a[0], a[1], a[2]), new int[] {50, 500, 50}, wrong, -1);
        Twins.refused(c, "a 31st credit", Twins.FULL, y -> y.credit(1, 0, 1), -1);
    }

    private static void adviceToday(Check c) {
        House x = new House();
        x.credit(1, 0, 1);
        x.book(1, 1, 0, 1);
        x.post(0, 1, 3);
        for (int k = 0; k < 60; k++) {
            x.clock(50 * k);
            c.is("advice " + k, x.advise(k % 2, 1), k);
            c.is("advices", x.count(2), k + 1);
            c.is("it comes", x.comes(0, k, 1), 50 * k + 3);
        }
    }

    private static void wrongAdvices(Check c) {
        int[][] wrong = {{-1, 30, 31, MIN, MAX}, NO_TOWNS};
        Twins.eachWrong(c, "advise", (x, a) -> x.advise(a[0], a[1]), new int[] {0, 1}, wrong, -1);
        Twins.refused(c, "of a new house's paper 0", Twins.NEW, x -> x.advise(0, 1), -1);
        Twins.refused(c, "of the paper behind the last", Twins.BUSY, x -> x.advise(2, 1), -1);
        Twins.refused(c, "a 61st advice", Twins.FULL, x -> x.advise(0, 1), -1);
        House y = new House();
        Twins.BUSY.on(y);
        c.is("of the last paper", y.advise(1, 1), 3);
        House z = new House();
        z.credit(1, 0, 1);
        z.post(0, 1, 3);
        for (int k = 0; k < 60; k++) {
            c.is("advice " + k, z.advise(0, 1), k);
        }
        c.is("a 61st", z.advise(0, 1), -1);
        c.is("lost", z.lose(0), 1);
        c.is("a lost one leaves no room", z.advise(0, 1), -1);
        c.is("60 in all", z.count(2), 60);
    }

    private static void adviceLost(Check c) {
        House x = new House();
        x.credit(1, 0, 1);
        x.post(0, 1, 1);
        x.agent(1, "pay if advised=1");
        for (int k = 0; k < 60; k++) {
            x.advise(0, 1);
        }
        for (int k = 0; k < 60; k++) {
            c.is("lose " + k, x.lose(k), 1);
            c.is("it never comes", x.comes(0, k, 1), -1);
            if (k < 59) {
                c.is("the next one does", x.comes(0, k + 1, 1), 1);
            }
        }
        x.clock(1);
        c.is("all are lost", x.showCredit(1, 0, 1), 1);
        c.is("there are 60 still", x.count(2), 60);
        House y = new House();
        y.credit(1, 0, 1);
        y.advise(0, 5);
        c.is("one that never comes", y.lose(0), 1);
        c.is("it is lost already", y.lose(0), 0);
    }

    private static void notLost(Check c) {
        int[][] wrong = {{-1, 60, 61, MIN, MAX}};
        Twins.eachWrong(c, "lose", (x, a) -> x.lose(a[0]), new int[] {0}, wrong, 0);
        Twins.refused(c, "none of a new house", Twins.NEW, x -> x.lose(0), 0);
        Twins.refused(c, "the one behind the last", Twins.BUSY, x -> x.lose(3), 0);
        Twins.refused(c, "a lost one", Twins.BUSY, x -> x.lose(2), 0);
        Twins.refused(c, "one that came the day ahead", Twins.BUSY, x -> x.lose(0), 0);
        Twins.refused(c, "one that comes today", x -> {
            Twins.BUSY.on(x);
            x.clock(7);
        }, x -> x.lose(1), 0);
        House x = new House();
        Twins.BUSY.on(x);
        x.clock(6);
        c.is("one that comes tomorrow", x.lose(1), 1);
    }

    private static void stopToday(Check c) {
        House x = new House();
        x.book(20, 1, 0, 1);
        x.credit(1, 0, 1);
        x.wire(3, 1, 9);
        for (int k = 0; k < 60; k++) {
            x.clock(50 * k);
            c.is("stop " + k, k % 3 == 0 ? x.stop(1, -1, 3) : x.stop(0, k % 21 - 1, 3), k);
            c.is("stops", x.count(3), k + 1);
            c.is("where it is told", x.comes(1, k, 3), 50 * k);
            c.is("elsewhere", x.comes(1, k, 1), 50 * k + 9);
            c.is("without a way", x.comes(1, k, 0), -1);
        }
    }

    private static void wrongStops(Check c) {
        int[][] wrong = {{-1, 30, 31, MIN, MAX}, {-2, 20, 21, MIN, MAX}, NO_TOWNS};
        Twins.eachWrong(c, "stop", (x, a) -> x.stop(a[0], a[1], a[2]), new int[] {0, 0, 1}, wrong, -1);
        int[][] leaves = {FINE, {-2, 0, 1, 20, MIN, MAX}, NO_TOWNS};
        Twins.eachWrong(c, "stop of a credit", (x, a) -> x.stop(a[0], a[1], a[2]), new int[] {1, -1, 1}, leaves, -1);
        Twins.refused(c, "of a new house's paper 0", Twins.NEW, x -> x.stop(0, -1, 1), -1);
        Twins.refused(c, "of the paper behind the last", Twins.BUSY, x -> x.stop(2, -1, 1), -1);
        Twins.refused(c, "of the leaf behind the last", Twins.BUSY, x -> x.stop(0, 3, 1), -1);
        Twins.refused(c, "a 61st stop", Twins.FULL, x -> x.stop(0, -1, 1), -1);
        Twins.refused(c, "a 61st stop, of a leaf", Twins.FULL, x -> x.stop(0, 0, 1), -1);
        House y = new House();
        Twins.BUSY.on(y);
        c.is("of the last leaf", y.stop(0, 2, 11), 2);
        c.is("of the first leaf", y.stop(0, 0, 0), 3);
        c.is("of the book", y.stop(0, -1, 0), 4);
        c.is("of the last paper", y.stop(1, -1, 0), 5);
    }
}
