/** Promise 23 (count). */
public final class CountTest {
    private static final Check CHECK = new Check();

    public static void main(String[] args) {
        NoteHouse x = new NoteHouse();
        x.clock(3);
        x.credit(10, 0, 1);
        x.book(1, 1, 1, 1);
        for (int k = 0; k < 3; k++) {
            x.advise(0, k);
        }
        for (int k = 0; k < 4; k++) {
            x.stop(0, -1, 0);
        }
        for (int k = 0; k < 5; k++) {
            x.show(1, 0, -1, 1, 0, true);
        }
        x.send(4, 4);
        x.settle(3);
        for (int t = 0; t < 12; t++) {
            Check.text(x, t, "ask;ask;ask;ask;ask;ask;ask;ask;ask;ask;ask;ask".substring(4 * (11 - t)));
        }
        Check.law(x, "stopped half;forged house;twice town;over house;hand 21");
        Check.feed(x, "pay if");
        int[] first = {3, 2, 3, 4, 5, 6, 1};
        for (int what = 0; what < 7; what++) {
            CHECK.is("count " + what, x.count(what), first[what]);
        }
        for (int t = 0; t < 12; t++) {
            CHECK.is("rules of " + t, x.count(10 + t), t + 1);
        }
        int[] law = {2, 0, 1, 0, 21};
        for (int k = 0; k < 5; k++) {
            CHECK.is("count " + (30 + k), x.count(30 + k), law[k]);
        }
        int[] others = {-1, 7, 8, 9, 22, 23, 28, 29, 35, 36, 100, Integer.MAX_VALUE, Integer.MIN_VALUE};
        for (int what : others) {
            CHECK.is("count " + what, x.count(what), -1);
        }
        CHECK.end();
    }
}
