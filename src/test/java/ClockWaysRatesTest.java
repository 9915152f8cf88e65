/** Promises 1 (a new object), 2 (clock), 3 (way), 4 (rate). */
public final class ClockWaysRatesTest {
    private static final Check CHECK = new Check();

    public static void main(String[] args) {
        newObject();
        clock();
        wrongWays();
        edgesOfWays();
        waysAnew();
        postsAndWires();
        longWay();
        rates();
        CHECK.end();
    }

    private static void newObject() {
        NoteHouse x = new NoteHouse();
        CHECK.is("NONE", NoteHouse.NONE, -1);
        for (int what = 0; what <= 6; what++) {
            CHECK.is("new: count " + what, x.count(what), 0);
        }
        for (int t = 0; t < 12; t++) {
            CHECK.is("new: rules of " + t, x.count(10 + t), 0);
            CHECK.is("new: due " + t, x.due(t), 0);
        }
        CHECK.is("new: stopped town", x.count(30), 1);
        CHECK.is("new: forged town", x.count(31), 1);
        CHECK.is("new: twice house", x.count(32), 0);
        CHECK.is("new: over half", x.count(33), 2);
        CHECK.is("new: hand 10", x.count(34), 10);
        CHECK.is("new: paper", x.paper(0, 0), -1);
        CHECK.is("new: shown", x.shown(0, 0), -1);
        CHECK.is("new: settled", x.settled(0, 0), -1);
        CHECK.is("new: netted", x.netted(0, 0), -1);
        CHECK.is("new: comes advice", x.comes(0, 0, 0), -1);
        CHECK.is("new: comes stop", x.comes(1, 0, 0), -1);
        x.credit(1, 0, 1);
        x.stop(0, -1, 3);
        for (int t = 0; t < 12; t++) {
            CHECK.is("no ways: to " + t, x.comes(1, 0, t), t == 3 ? 0 : -1);
        }
        CHECK.is("no text refuses", x.show(3, 0, -1, 1, 0, true), 1);
    }

    private static void clock() {
        NoteHouse x = new NoteHouse();
        CHECK.is("clock -1", x.clock(-1), false);
        CHECK.is("clock 0", x.clock(0), true);
        CHECK.is("clock 7", x.clock(7), true);
        CHECK.is("clock 7 again", x.clock(7), true);
        CHECK.is("clock 6", x.clock(6), false);
        CHECK.is("clock stays", x.count(0), 7);
        CHECK.is("clock 3001", x.clock(3001), false);
        CHECK.is("clock max", x.clock(Integer.MAX_VALUE), false);
        CHECK.is("clock min", x.clock(Integer.MIN_VALUE), false);
        CHECK.is("clock stays at 7", x.count(0), 7);
        CHECK.is("clock 3000", x.clock(3000), true);
        CHECK.is("clock 3000 again", x.clock(3000), true);
        CHECK.is("clock at 3000", x.count(0), 3000);
    }

    private static void wrongWays() {
        NoteHouse x = new NoteHouse();
        CHECK.is("way a below", x.way(-1, 1, false, 1), false);
        CHECK.is("way a above", x.way(12, 1, false, 1), false);
        CHECK.is("way b below", x.way(1, -1, true, 1), false);
        CHECK.is("way b above", x.way(1, 12, true, 1), false);
        CHECK.is("way to itself", x.way(4, 4, false, 1), false);
        CHECK.is("way days below", x.way(1, 2, false, -1), false);
        CHECK.is("way days above", x.way(1, 2, true, 100), false);
        x.credit(1, 0, 1);
        x.stop(0, -1, 1);
        CHECK.is("wrong way is none", x.comes(1, 0, 2), -1);
    }

    private static void edgesOfWays() {
        NoteHouse x = new NoteHouse();
        x.credit(1, 0, 1);
        CHECK.is("way of 0 days", x.way(0, 11, false, 0), true);
        CHECK.is("way of 99 days", x.way(11, 10, true, 99), true);
        x.clock(5);
        x.stop(0, -1, 0);
        CHECK.is("comes at once", x.comes(1, 0, 11), 5);
        CHECK.is("comes after 99", x.comes(1, 0, 10), 104);
        CHECK.is("wrong days change nothing", x.way(0, 11, false, 100), false);
        x.stop(0, -1, 11);
        CHECK.is("still at once, and back", x.comes(1, 1, 0), 5);
    }

    private static void waysAnew() {
        NoteHouse x = new NoteHouse();
        x.credit(1, 0, 1);
        x.way(0, 1, false, 3);
        x.advise(0, 1);
        x.stop(0, -1, 0);
        CHECK.is("slower anew", x.way(1, 0, false, 9), true);
        x.advise(0, 1);
        x.stop(0, -1, 0);
        CHECK.is("sent ahead: advice", x.comes(0, 0, 1), 3);
        CHECK.is("sent ahead: stop", x.comes(1, 0, 1), 3);
        CHECK.is("sent behind: advice", x.comes(0, 1, 1), 9);
        CHECK.is("sent behind: stop", x.comes(1, 1, 1), 9);
        x.way(0, 1, true, 4);
        x.advise(0, 1);
        x.stop(0, -1, 1);
        CHECK.is("a wire takes no letter", x.comes(0, 2, 1), 9);
        CHECK.is("a wire takes news", x.comes(1, 2, 0), 4);
        x.way(0, 1, true, 50);
        x.stop(0, -1, 1);
        CHECK.is("the quicker of post and wire", x.comes(1, 3, 0), 9);
    }

    private static void postsAndWires() {
        NoteHouse x = new NoteHouse();
        x.credit(1, 0, 1);
        x.way(0, 1, false, 10);
        x.way(1, 2, true, 1);
        x.way(2, 3, false, 10);
        x.way(0, 3, false, 25);
        x.way(3, 4, true, 2);
        x.clock(100);
        x.stop(0, -1, 0);
        CHECK.is("news 1", x.comes(1, 0, 1), 110);
        CHECK.is("news 2", x.comes(1, 0, 2), 111);
        CHECK.is("news 3", x.comes(1, 0, 3), 121);
        CHECK.is("news 4", x.comes(1, 0, 4), 123);
        CHECK.is("news 5", x.comes(1, 0, 5), -1);
        x.advise(0, 3);
        x.advise(0, 2);
        x.advise(0, 4);
        x.advise(0, 0);
        CHECK.is("letter 3", x.comes(0, 0, 3), 125);
        CHECK.is("letter 2", x.comes(0, 1, 2), 135);
        CHECK.is("letter 4", x.comes(0, 2, 4), -1);
        CHECK.is("letter 0", x.comes(0, 3, 0), 100);
    }

    private static void longWay() {
        NoteHouse x = new NoteHouse();
        x.credit(1, 0, 1);
        int[] order = {0, 7, 3, 11, 1, 9, 2, 10, 5, 8, 4, 6};
        for (int k = 1; k < 12; k++) {
            x.way(order[k - 1], order[k], false, 99);
        }
        x.clock(3000);
        x.stop(0, -1, 0);
        for (int k = 0; k < 12; k++) {
            CHECK.is("along all towns, to " + order[k], x.comes(1, 0, order[k]), 3000 + 99 * k);
        }
    }

    private static void rates() {
        NoteHouse x = new NoteHouse();
        x.credit(100000, 0, 1);
        Check.text(x, 3, "pay");
        CHECK.is("rate town below", x.rate(-1, 0, 1), false);
        CHECK.is("rate town above", x.rate(12, 0, 1), false);
        CHECK.is("rate coin below", x.rate(3, -1, 1), false);
        CHECK.is("rate coin above", x.rate(3, 4, 1), false);
        CHECK.is("rate 0", x.rate(3, 0, 0), false);
        CHECK.is("rate above", x.rate(3, 0, 100001), false);
        x.show(3, 0, -1, 100000, 0, false);
        CHECK.is("rate at first", x.shown(0, 6), 100000);
        CHECK.is("rate 1", x.rate(3, 3, 1), true);
        x.show(3, 0, -1, 999, 0, false);
        CHECK.is("999 of 1 thousandth", x.shown(1, 6), 0);
        x.show(3, 0, -1, 1999, 0, false);
        CHECK.is("1999 of 1 thousandth", x.shown(2, 6), 1);
        CHECK.is("rate 100000", x.rate(3, 0, 100000), true);
        x.show(3, 0, -1, 100000, 0, false);
        CHECK.is("the most", x.shown(3, 6), 10000000);
        CHECK.is("paid earlier stays", x.shown(2, 6), 1);
        CHECK.is("rate of town 0", x.rate(0, 1, 1500), true);
        CHECK.is("rate of town 11", x.rate(11, 1, 1500), true);
        Check.text(x, 0, "pay");
        x.show(0, 0, -1, 3, 0, false);
        CHECK.is("4.5 downwards", x.shown(4, 6), 4);
    }
}
