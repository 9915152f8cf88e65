/** Promises 15 (send), 19 (settle), 20 (settled), 21 (due), 22 (netted). */
public final class SettlementTest {
    private static final Check CHECK = new Check();

    public static void main(String[] args) {
        send();
        whatIsKnown();
        stopped();
        forged();
        twice();
        over();
        orderOfKinds();
        bearers();
        laterCallsChangeNothing();
        netting();
        nettingOfGivers();
        netsEven();
        coinsThatTheyHaveNow();
        CHECK.end();
    }

    /** A house whose TOWNS all pay, each a POST of its number of days away. */
    private static NoteHouse payingHouse() {
        NoteHouse x = new NoteHouse();
        for (int t = 0; t < 12; t++) {
            Check.text(x, t, "pay");
            if (t > 0) {
                x.way(0, t, false, t);
            }
        }
        return x;
    }

    private static void send() {
        NoteHouse x = new NoteHouse();
        CHECK.is("send to -1", x.send(-1, 5), -1);
        CHECK.is("send to 0", x.send(0, 5), -1);
        CHECK.is("send to 12", x.send(12, 5), -1);
        CHECK.is("send 0", x.send(1, 0), -1);
        CHECK.is("send -1", x.send(1, -1), -1);
        CHECK.is("send 1000001", x.send(1, 1000001), -1);
        CHECK.is("send 1", x.send(1, 1), 1);
        CHECK.is("send 1000000", x.send(1, 1000000), 1000001);
        CHECK.is("send to 11", x.send(11, 7), 7);
        x.settle(0);
        CHECK.is("due 1", x.due(1), -1000001);
        CHECK.is("due 11", x.due(11), -7);
        CHECK.is("due 0", x.due(0), 0);
        // more calls than are promised, but the bound of all that is SENT is reached by them alone
        for (int k = 2; k <= 999; k++) {
            CHECK.is("send in all " + k, x.send(1, 1000000), 1000000 * k + 1);
        }
        CHECK.is("one too many", x.send(1, 1000000), -1);
        CHECK.is("up to the bound", x.send(1, 999999), 1000000000);
        CHECK.is("beyond the bound", x.send(1, 1), -1);
    }

    private static void whatIsKnown() {
        NoteHouse x = payingHouse();
        x.credit(1000, 0, 10);
        CHECK.is("settled ahead of any", x.settled(0, 0), -1);
        CHECK.is("due ahead of any", x.due(3), 0);
        CHECK.is("gifts ahead of any", x.count(6), 0);
        x.clock(10);
        x.show(3, 0, -1, 5, 0, true);
        x.show(0, 0, -1, 6, 0, true);
        x.show(11, 0, -1, 7, 0, true);
        Check.text(x, 1, "ask");
        x.show(1, 0, -1, 8, 0, true);
        CHECK.is("settled, though none was made", x.settled(0, 0), -1);
        CHECK.is("settle -1", x.settle(-1), -1);
        CHECK.is("settle 3001", x.settle(3001), -1);
        CHECK.is("no settlement yet", x.settled(1, 0), -1);
        CHECK.is("settle 9", x.settle(9), 0);
        CHECK.is("settle 10", x.settle(10), 1);
        CHECK.is("settled 1", x.settled(1, 1), 6);
        CHECK.is("due 0", x.due(0), 6);
        CHECK.is("settle 12", x.settle(12), 1);
        CHECK.is("not 0", x.settled(0, 0), -1);
        CHECK.is("settle 13", x.settle(13), 2);
        CHECK.is("now 0", x.settled(0, 0), 0);
        CHECK.is("its share", x.settled(0, 1), 5);
        CHECK.is("what 2", x.settled(0, 2), -1);
        CHECK.is("what -1", x.settled(0, -1), -1);
        CHECK.is("settle 3000", x.settle(3000), 3);
        CHECK.is("due 11", x.due(11), 7);
        CHECK.is("asked is not in it", x.settled(3, 0), -1);
        CHECK.is("none such", x.settled(4, 0), -1);
        CHECK.is("none such: 200", x.settled(200, 0), -1);
        CHECK.is("none such: 201", x.settled(201, 0), -1);
        CHECK.is("none such: -1", x.settled(-1, 0), -1);
        CHECK.is("due -1", x.due(-1), 0);
        CHECK.is("due 12", x.due(12), 0);
        CHECK.is("a wrong settle", x.settle(3001), -1);
        CHECK.is("changes nothing", x.due(11), 7);
        CHECK.is("less is known", x.settle(10), 1);
        CHECK.is("0 is out again", x.settled(0, 0), -1);
        CHECK.is("due 3 again", x.due(3), 0);
        letterThatNeverComes();
    }

    private static void letterThatNeverComes() {
        NoteHouse x = new NoteHouse();
        x.credit(1000, 0, 10);
        Check.text(x, 4, "pay");
        x.way(0, 4, true, 1);
        x.show(4, 0, -1, 5, 0, true);
        CHECK.is("no post", x.settle(3000), 0);
        x.way(0, 4, false, 1);
        CHECK.is("a post told later", x.settle(3000), 0);
        x.clock(3000);
        x.show(4, 0, -1, 5, 0, true);
        CHECK.is("comes behind the last day", x.shown(1, 8), 3001);
        CHECK.is("never known", x.settle(3000), 0);
    }

    private static void stopped() {
        NoteHouse x = payingHouse();
        x.book(5, 100, 0, 10);
        x.credit(1000, 0, 10);
        x.clock(10);
        x.show(2, 0, 0, 0, 0, true);
        x.stop(0, 0, 0);
        x.stop(1, -1, 2);
        x.show(2, 1, -1, 100, 0, true);
        x.clock(11);
        x.show(2, 0, 0, 0, 0, true);
        x.show(1, 0, 0, 0, 0, true);
        x.show(2, 0, 1, 0, 0, true);
        x.clock(12);
        x.show(2, 0, 2, 0, 0, true);
        x.show(2, 0, 0, 0, 0, true);
        x.stop(0, -1, 2);
        x.clock(13);
        x.stop(0, -1, 1);
        // 4: a stop told on a later day does not reach back; 5: one told later on its day counts
        int[] kinds = {0, 1, 3, 1, 0, 1, 1};
        CHECK.is("settle", x.settle(3000), 7);
        for (int k = 0; k < 7; k++) {
            CHECK.is("kind of " + k, x.settled(k, 0), kinds[k]);
        }
        CHECK.is("the town bears", x.settled(1, 1), 0);
        CHECK.is("due 1", x.due(1), 0);
        CHECK.is("due 2", x.due(2), 300);
    }

    private static void forged() {
        NoteHouse x = payingHouse();
        x.credit(1000, 50000, 10);
        x.show(1, 0, -1, 10, 50009, true);
        x.show(1, 0, -1, 10, 50019, true);
        x.show(1, 0, -1, 10, 50000, true);
        x.settle(1);
        CHECK.is("unlike by 9", x.settled(0, 0), 0);
        CHECK.is("unlike by 10", x.settled(1, 0), 2);
        CHECK.is("its share", x.settled(1, 1), 0);
        Check.law(x, "hand 9;forged half");
        x.settle(1);
        CHECK.is("9 of 9", x.settled(0, 0), 2);
        CHECK.is("half of it", x.settled(0, 1), 5);
        CHECK.is("alike", x.settled(2, 0), 0);
        Check.law(x, "hand 0;forged house");
        x.settle(1);
        CHECK.is("hand 0: all are forged", x.settled(2, 0), 2);
        CHECK.is("the house bears", x.due(1), 30);
        Check.law(x, "hand 46");
        x.settle(1);
        CHECK.is("hand 46: none is", x.settled(1, 0), 0);
    }

    private static void twice() {
        NoteHouse x = payingHouse();
        x.book(2, 100, 0, 10);
        x.book(2, 100, 0, 10);
        x.show(9, 0, 0, 0, 0, true);
        x.show(1, 0, 0, 0, 0, true);
        x.show(1, 0, 1, 0, 0, true);
        x.show(1, 1, 0, 0, 0, true);
        x.show(1, 0, 0, 0, 0, true);
        CHECK.is("settle ahead of the far letter", x.settle(1), 4);
        CHECK.is("the far one is not in it", x.settled(0, 0), -1);
        CHECK.is("so the near one is good", x.settled(1, 0), 0);
        CHECK.is("another leaf", x.settled(2, 0), 0);
        CHECK.is("another book", x.settled(3, 0), 0);
        CHECK.is("the near one again", x.settled(4, 0), 3);
        x.settle(9);
        CHECK.is("the far one came", x.settled(0, 0), 0);
        CHECK.is("so the near one is twice", x.settled(1, 0), 3);
        CHECK.is("thrice too", x.settled(4, 0), 3);
        CHECK.is("the house bears", x.due(1), 400);
        ofWhateverKind();
    }

    private static void ofWhateverKind() {
        NoteHouse x = payingHouse();
        x.book(2, 100, 0, 10);
        x.stop(0, 0, 1);
        x.show(1, 0, 0, 0, 0, true);
        x.show(2, 0, 0, 0, 0, true);
        x.show(2, 0, 1, 0, 99999, true);
        x.show(2, 0, 1, 0, 0, true);
        x.settle(2);
        CHECK.is("against a stop", x.settled(0, 0), 1);
        CHECK.is("twice behind a stopped one", x.settled(1, 0), 3);
        CHECK.is("on a forged hand", x.settled(2, 0), 2);
        CHECK.is("twice behind a forged one", x.settled(3, 0), 3);
    }

    private static void over() {
        NoteHouse x = payingHouse();
        x.credit(1000, 0, 10);
        x.credit(1000, 0, 10);
        x.rate(1, 0, 3000);
        x.show(9, 0, -1, 1, 0, false);
        x.show(1, 0, -1, 400, 0, false);
        x.show(1, 1, -1, 999, 0, false);
        x.show(1, 0, -1, 600, 0, false);
        x.show(1, 0, -1, 1, 0, false);
        x.show(1, 1, -1, 1, 0, false);
        x.show(1, 1, -1, 1, 0, false);
        CHECK.is("settle ahead of the far letter", x.settle(1), 6);
        int[] kinds = {-1, 0, 0, 0, 4, 0, 4};
        for (int k = 0; k < 7; k++) {
            CHECK.is("kind of " + k, x.settled(k, 0), kinds[k]);
        }
        CHECK.is("half of 3, downwards", x.settled(4, 1), 1);
        CHECK.is("settle", x.settle(9), 7);
        CHECK.is("over by the far one", x.settled(3, 0), 4);
        CHECK.is("half of 1800", x.settled(3, 1), 900);
        overCountsAllKinds();
    }

    private static void overCountsAllKinds() {
        NoteHouse x = payingHouse();
        x.credit(1000, 0, 10);
        x.stop(0, -1, 1);
        x.show(1, 0, -1, 500, 0, false);
        x.show(2, 0, -1, 400, 99999, false);
        x.show(2, 0, -1, 101, 0, false);
        x.show(2, 0, -1, 100, 0, false);
        x.settle(2);
        CHECK.is("against a stop", x.settled(0, 0), 1);
        CHECK.is("on a forged hand", x.settled(1, 0), 2);
        CHECK.is("both count, so it is over", x.settled(2, 0), 4);
        CHECK.is("and so is the next", x.settled(3, 0), 4);
        NoteHouse y = payingHouse();
        y.credit(1000, 0, 10);
        y.show(2, 0, -1, 1001, 0, true);
        y.settle(2);
        CHECK.is("its own amount alone", y.settled(0, 0), 4);
    }

    private static void orderOfKinds() {
        NoteHouse x = payingHouse();
        x.book(1, 10, 0, 10);
        x.credit(10, 0, 10);
        x.show(1, 0, 0, 0, 0, true);
        x.show(1, 0, 0, 0, 99999, true);
        x.show(1, 1, -1, 20, 99999, true);
        x.clock(1);
        x.stop(0, -1, 1);
        x.stop(1, -1, 1);
        x.show(1, 0, 0, 0, 99999, true);
        x.show(1, 1, -1, 20, 99999, true);
        x.settle(5);
        int[] kinds = {0, 2, 2, 1, 1};
        for (int k = 0; k < 5; k++) {
            CHECK.is("the first kind of " + k, x.settled(k, 0), kinds[k]);
        }
    }

    private static void bearers() {
        String[] words = {"house", "town", "half"};
        int[] shares = {101, 0, 50};
        for (int b = 0; b < 3; b++) {
            NoteHouse x = payingHouse();
            x.book(2, 101, 0, 10);
            x.credit(100, 0, 10);
            x.stop(0, 0, 1);
            x.show(1, 0, 0, 0, 0, true);
            x.show(1, 0, 1, 0, 99999, true);
            x.show(1, 0, 1, 0, 0, true);
            x.show(1, 1, -1, 101, 0, true);
            String[] kinds = {"stopped", "forged", "twice", "over"};
            for (int k = 0; k < 4; k++) {
                Check.law(x, kinds[k] + " " + words[b]);
                x.settle(5);
                CHECK.is(kinds[k], x.settled(k, 0), k + 1);
                CHECK.is(kinds[k] + " " + words[b], x.settled(k, 1), shares[b]);
            }
        }
    }

    private static void laterCallsChangeNothing() {
        NoteHouse x = payingHouse();
        x.credit(1000, 0, 10);
        x.show(1, 0, -1, 500, 0, true);
        x.settle(1);
        x.send(1, 100);
        x.rate(1, 2, 2000);
        Check.law(x, "hand 0");
        x.stop(0, -1, 1);
        x.show(1, 0, -1, 200, 0, true);
        CHECK.is("kind", x.settled(0, 0), 0);
        CHECK.is("due", x.due(1), 500);
        CHECK.is("gift", x.netted(0, 2), 500);
        CHECK.is("its coin", x.netted(0, 3), 0);
        CHECK.is("the later one is not in it", x.settled(1, 0), -1);
        x.settle(1);
        CHECK.is("kind anew", x.settled(0, 0), 1);
        CHECK.is("due anew", x.due(1), -100);
        CHECK.is("coin anew", x.netted(0, 3), 2);
    }

    private static void gifts(NoteHouse x, String name, long[][] want) {
        CHECK.is(name + ": how many", x.count(6), want.length);
        for (int k = 0; k < want.length; k++) {
            for (int what = 0; what < 4; what++) {
                CHECK.is(name + ": gift " + k + " " + what, x.netted(k, what), want[k][what]);
            }
            CHECK.is(name + ": gift " + k + " -1", x.netted(k, -1), -1);
            CHECK.is(name + ": gift " + k + " 4", x.netted(k, 4), -1);
        }
        for (int k : new int[] {want.length, want.length + 1, 12, 13, Integer.MAX_VALUE, Integer.MIN_VALUE}) {
            CHECK.is(name + ": none behind, " + k, x.netted(k, 0), -1);
        }
        CHECK.is(name + ": none ahead", x.netted(-1, 0), -1);
    }

    private static void netting() {
        NoteHouse x = payingHouse();
        x.credit(100000, 0, 10);
        for (int t : new int[] {2, 3, 7, 8, 9}) {
            x.rate(t, 3, 1000);
        }
        x.show(8, 0, -1, 70, 0, true);
        x.show(3, 0, -1, 100, 0, true);
        x.show(9, 0, -1, 20, 0, true);
        x.show(0, 0, -1, 11, 0, true);
        x.show(5, 0, -1, 12, 0, true);
        x.send(7, 130);
        x.send(2, 5);
        x.send(4, 11);
        x.settle(20);
        gifts(x, "netting", new long[][] {{4, 0, 11, 0}, {12, 5, 12, 0}, {2, 3, 5, 3}, {7, 3, 95, 3}, {7, 8, 35, 3},
            {12, 8, 35, 3}, {12, 9, 20, 3}});
        x.settle(2);
        gifts(x, "less known", new long[][] {{4, 0, 11, 0}, {2, 12, 5, 3}, {7, 12, 130, 3}});
    }

    private static void nettingOfGivers() {
        NoteHouse x = payingHouse();
        x.credit(100000, 0, 10);
        x.show(6, 0, -1, 70, 0, true);
        x.send(11, 50);
        x.send(10, 40);
        x.send(1, 1);
        x.settle(20);
        gifts(x, "givers", new long[][] {{1, 6, 1, 0}, {10, 6, 40, 0}, {11, 6, 29, 0}, {11, 12, 21, 0}});
        onesGive();
        NoteHouse y = payingHouse();
        for (int t = 1; t < 12; t++) {
            y.send(t, t);
        }
        y.settle(0);
        CHECK.is("eleven gifts", y.count(6), 11);
        CHECK.is("the last", y.netted(10, 2), 11);
    }

    private static void onesGive() {
        NoteHouse x = payingHouse();
        x.credit(100000, 0, 10);
        x.rate(8, 1, 1000);
        x.show(6, 0, -1, 1, 0, true);
        x.show(7, 0, -1, 1, 0, true);
        x.show(8, 0, -1, 1, 0, true);
        x.send(9, 1);
        x.settle(20);
        gifts(x, "ones", new long[][] {{9, 6, 1, 0}, {12, 7, 1, 0}, {12, 8, 1, 1}});
    }

    private static void netsEven() {
        NoteHouse x = payingHouse();
        x.credit(100000, 0, 10);
        x.show(1, 0, -1, 70, 0, true);
        x.send(1, 70);
        x.settle(20);
        gifts(x, "nothing is due", new long[][] {});
        x.show(0, 0, -1, 5, 0, true);
        for (int t = 2; t < 12; t++) {
            x.show(t, 0, -1, 5, 0, true);
        }
        x.send(1, 1);
        x.settle(20);
        CHECK.is("twelve towns, twelve gifts", x.count(6), 12);
        CHECK.is("1 gives to 0", x.netted(0, 1), 0);
        CHECK.is("the house gives the rest", x.netted(1, 2), 4);
        CHECK.is("and to 11", x.netted(11, 1), 11);
    }

    private static void coinsThatTheyHaveNow() {
        NoteHouse x = payingHouse();
        x.credit(100000, 0, 10);
        x.rate(1, 1, 2000);
        x.show(1, 0, -1, 70, 0, true);
        x.rate(1, 2, 500);
        x.send(2, 30);
        x.rate(2, 2, 500);
        x.settle(20);
        CHECK.is("due as it was paid", x.due(1), 140);
        gifts(x, "now of coin 2", new long[][] {{2, 1, 30, 2}, {12, 1, 110, 2}});
    }
}
