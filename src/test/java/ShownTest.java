/** Promises 14 (show), 16 (shown). */
public final class ShownTest {
    private static final Check CHECK = new Check();

    public static void main(String[] args) {
        wrongOnes();
        whatIsAsked();
        twoHundred();
        hands();
        agesAndDays();
        amountsAndLeft();
        firstRule();
        letters();
        CHECK.end();
    }

    private static void wrongOnes() {
        NoteHouse x = new NoteHouse();
        CHECK.is("no paper", x.show(1, 0, -1, 1, 0, true), -1);
        x.book(20, 10, 0, 10);
        x.credit(10, 0, 10);
        int[][] calls = {{-1, 0, 0, 1, 0}, {12, 0, 0, 1, 0}, {1, -1, 0, 1, 0}, {1, 2, 0, 1, 0}, {1, 0, -1, 1, 0},
            {1, 0, 20, 1, 0}, {1, 0, 0, 1, -1}, {1, 0, 0, 1, 100000}, {1, 1, 0, 1, 0}, {1, 1, -2, 1, 0},
            {1, 1, -1, 0, 0}, {1, 1, -1, -5, 0}, {1, 1, -1, 100001, 0}, {1, 1, -1, 1, -1}, {1, 1, -1, 1, 100000}};
        for (int[] c : calls) {
            CHECK.is("show " + c[0] + " " + c[1] + " " + c[2] + " " + c[3] + " " + c[4],
                x.show(c[0], c[1], c[2], c[3], c[4], true), -1);
        }
        CHECK.is("nothing was shown", x.count(4), 0);
    }

    private static void whatIsAsked() {
        NoteHouse x = new NoteHouse();
        x.book(20, 10, 0, 10);
        x.credit(10, 0, 10);
        x.rate(11, 2, 2500);
        Check.text(x, 11, "refuse if amount=7;ask if amount=100000;pay if amount>8");
        x.way(11, 0, false, 6);
        x.clock(4);
        CHECK.is("a leaf", x.show(11, 0, 19, Integer.MIN_VALUE, 99999, false), 0);
        CHECK.is("ruled out", x.show(11, 1, -1, 7, 1, true), 1);
        CHECK.is("asked", x.show(11, 1, -1, 100000, 1, true), 2);
        CHECK.is("without a rule", x.show(11, 1, -1, 8, 1, true), 1);
        CHECK.is("without a text", x.show(0, 0, 0, 8, 1, true), 1);
        int[][] want = {{11, 0, 19, 10, 0, 2, 25, 4, 10}, {11, 1, -1, 7, 1, 0, 0, 4, -1},
            {11, 1, -1, 100000, 2, 1, 0, 4, -1}, {11, 1, -1, 8, 1, -1, 0, 4, -1}, {0, 0, 0, 10, 1, -1, 0, 4, -1}};
        for (int k = 0; k < want.length; k++) {
            for (int what = 0; what < 9; what++) {
                CHECK.is("shown " + k + " " + what, x.shown(k, what), want[k][what]);
            }
            CHECK.is("shown " + k + " -1", x.shown(k, -1), -1);
            CHECK.is("shown " + k + " 9", x.shown(k, 9), -1);
        }
        CHECK.is("shown -1", x.shown(-1, 0), -1);
        for (int k : new int[] {5, 6, 199, 200, 201, Integer.MAX_VALUE, Integer.MIN_VALUE}) {
            CHECK.is("shown " + k, x.shown(k, 0), -1);
        }
        CHECK.is("shown so many", x.count(4), 5);
        CHECK.is("only what is paid is noted", x.paper(1, 3), 0);
    }

    private static void twoHundred() {
        NoteHouse x = new NoteHouse();
        x.credit(100000, 0, 10);
        Check.text(x, 1, "pay");
        for (int k = 0; k < 200; k++) {
            CHECK.is("show " + k, x.show(1, 0, -1, 100000, 0, true), 0);
        }
        CHECK.is("show 201", x.show(1, 0, -1, 100000, 0, true), -1);
        CHECK.is("200 were shown", x.count(4), 200);
        CHECK.is("noted", x.paper(0, 3), 20000000);
        CHECK.is("the last", x.shown(199, 3), 100000);
        CHECK.is("none behind", x.shown(200, 3), -1);
    }

    private static void hands() {
        hand(12345, 12345, 0);
        hand(0, 99999, 45);
        hand(99999, 0, 45);
        hand(12345, 54321, 12);
        hand(1, 10000, 2);
        hand(19, 20, 10);
        hand(90000, 9, 18);
        hand(70605, 1, 17);
        NoteHouse x = new NoteHouse();
        x.credit(10, 12345, 10);
        x.credit(10, 12345, 10);
        Check.text(x, 1, "pay if hand=99 and advised=0;ask if hand<99 and advised=1");
        Check.text(x, 2, "pay if hand=99 and advised=0;ask if hand<99 and advised=1");
        x.way(0, 2, false, 3);
        x.way(2, 1, false, 3);
        x.advise(0, 1);
        x.clock(5);
        CHECK.is("not yet advised", x.show(1, 0, -1, 1, 12345, true), 0);
        x.clock(6);
        CHECK.is("advised", x.show(1, 0, -1, 1, 12345, true), 2);
        CHECK.is("of another paper", x.show(1, 1, -1, 1, 12345, true), 0);
        CHECK.is("where the letter went through", x.show(2, 0, -1, 1, 12345, true), 0);
    }

    /** How UNLIKE two hands are, by an agent to whom the paper was advised. */
    private static void hand(int ofPaper, int shown, int want) {
        NoteHouse x = new NoteHouse();
        x.credit(10, ofPaper, 10);
        x.advise(0, 0);
        Check.text(x, 0, "pay if hand=" + want);
        CHECK.is("hands " + ofPaper + " and " + shown, x.show(0, 0, -1, 1, shown, true), 0);
        Check.text(x, 0, "pay if hand<" + want + ";ask if hand>" + want);
        CHECK.is("neither less nor more: " + shown, x.show(0, 0, -1, 1, shown, true), 1);
    }

    private static void agesAndDays() {
        NoteHouse x = new NoteHouse();
        x.clock(10);
        x.book(1, 10, 0, 5);
        Check.text(x, 1, "pay if age=5 and late=0 and day=15;ask if age=6 and late=1 and day=16");
        CHECK.is("day 10", x.show(1, 0, 0, 0, 0, true), 1);
        x.clock(15);
        CHECK.is("the last good day", x.show(1, 0, 0, 0, 0, true), 0);
        x.clock(16);
        CHECK.is("late", x.show(1, 0, 0, 0, 0, true), 2);
    }

    private static void amountsAndLeft() {
        NoteHouse x = new NoteHouse();
        x.book(2, 30, 0, 5);
        x.credit(100, 0, 5);
        Check.text(x, 1, "pay if amount=30 and left=30;pay if amount=60 and left=100;pay if amount=61 and left=40"
            + ";ask if left<0;refuse");
        CHECK.is("a leaf", x.show(1, 0, 0, 0, 0, true), 0);
        CHECK.is("the leaf again: its worth is left", x.show(1, 0, 0, 0, 0, true), 0);
        CHECK.is("a credit", x.show(1, 1, -1, 60, 0, false), 0);
        CHECK.is("forgotten", x.show(1, 1, -1, 60, 0, true), 0);
        CHECK.is("noted", x.show(1, 1, -1, 60, 0, true), 1);
        CHECK.is("beyond its limit", x.show(1, 1, -1, 61, 0, true), 0);
        CHECK.is("less than nothing is left", x.show(1, 1, -1, 61, 0, true), 2);
        CHECK.is("rule 3", x.shown(6, 5), 3);
    }

    private static void firstRule() {
        NoteHouse x = new NoteHouse();
        x.credit(100, 0, 5);
        Check.text(x, 1, "ask if amount>5 and amount<9;refuse if amount>5;pay if amount=5;pay;ask");
        int[][] want = {{5, 0, 2}, {6, 2, 0}, {8, 2, 0}, {9, 1, 1}, {4, 0, 3}};
        for (int k = 0; k < want.length; k++) {
            CHECK.is("amount " + want[k][0], x.show(1, 0, -1, want[k][0], 0, true), want[k][1]);
            CHECK.is("by rule, amount " + want[k][0], x.shown(k, 5), want[k][2]);
        }
        Check.text(x, 1, "ask;ask;ask;ask;ask;ask;ask;ask;ask;ask;ask;pay if day=0 and age=0 and late=0 and left>0"
            + " and advised=0 and stopped=0");
        CHECK.is("the first of twelve", x.show(1, 0, -1, 1, 0, true), 2);
        Check.text(x, 1, "ask if day>0;ask if day>0;ask if day>0;ask if day>0;ask if day>0;ask if day>0;ask if day>0;"
            + "ask if day>0;ask if day>0;ask if day>0;ask if day>0;pay if day=0 and age=0 and late=0 and left>0"
            + " and advised=0 and stopped=0");
        CHECK.is("the last of twelve", x.show(1, 0, -1, 1, 0, true), 0);
        CHECK.is("rule 11", x.shown(6, 5), 11);
        Check.text(x, 1, "pay if day=0 and age=0 and late=0 and left>0 and advised=0 and stopped=1;ask");
        CHECK.is("the sixth cond counts", x.show(1, 0, -1, 1, 0, true), 2);
    }

    private static void letters() {
        NoteHouse x = new NoteHouse();
        x.credit(100, 0, 5);
        for (int t = 0; t < 4; t++) {
            Check.text(x, t, "pay");
        }
        x.way(1, 2, false, 4);
        x.way(2, 0, false, 5);
        x.way(1, 0, true, 1);
        x.way(3, 0, true, 1);
        x.clock(20);
        for (int t = 0; t < 4; t++) {
            x.show(t, 0, -1, 1, 0, true);
        }
        x.way(1, 0, false, 1);
        x.show(1, 0, -1, 1, 0, true);
        int[] want = {20, 29, 25, -1, 21};
        for (int k = 0; k < 5; k++) {
            CHECK.is("letter of " + k, x.shown(k, 8), want[k]);
        }
    }
}
