/** Promises 5 (book), 6 (credit), 17 (paper). */
public final class PapersTest {
    private static final Check CHECK = new Check();

    public static void main(String[] args) {
        wrongOnes();
        edges();
        thirty();
        noted();
        CHECK.end();
    }

    private static void wrongOnes() {
        NoteHouse x = new NoteHouse();
        int[][] books = {{0, 1, 0, 1}, {21, 1, 0, 1}, {1, 0, 0, 1}, {1, 10001, 0, 1}, {1, 1, -1, 1},
            {1, 1, 100000, 1}, {1, 1, 0, 0}, {1, 1, 0, 2001}, {-1, 1, 0, 1}, {Integer.MIN_VALUE, 1, 0, 1}};
        for (int[] b : books) {
            CHECK.is("book " + b[0] + " " + b[1] + " " + b[2] + " " + b[3], x.book(b[0], b[1], b[2], b[3]), -1);
        }
        int[][] credits = {{0, 0, 1}, {100001, 0, 1}, {1, -1, 1}, {1, 100000, 1}, {1, 0, 0}, {1, 0, 2001}};
        for (int[] c : credits) {
            CHECK.is("credit " + c[0] + " " + c[1] + " " + c[2], x.credit(c[0], c[1], c[2]), -1);
        }
        CHECK.is("none was made", x.count(1), 0);
    }

    private static void edges() {
        NoteHouse x = new NoteHouse();
        CHECK.is("the least book", x.book(1, 1, 0, 1), 0);
        x.clock(9);
        CHECK.is("the most book", x.book(20, 10000, 99999, 2000), 1);
        CHECK.is("the least credit", x.credit(1, 0, 1), 2);
        x.clock(10);
        CHECK.is("the most credit", x.credit(100000, 99999, 2000), 3);
        int[][] want = {{1, 1, 0}, {20, 10000, 9}, {0, 1, 9}, {0, 100000, 10}};
        for (int k = 0; k < 4; k++) {
            for (int what = 0; what < 3; what++) {
                CHECK.is("paper " + k + " " + what, x.paper(k, what), want[k][what]);
            }
            CHECK.is("noted on " + k, x.paper(k, 3), 0);
            CHECK.is("paid on " + k, x.paper(k, 4), 0);
            CHECK.is("what -1 of " + k, x.paper(k, -1), -1);
            CHECK.is("what 5 of " + k, x.paper(k, 5), -1);
        }
        CHECK.is("paper -1", x.paper(-1, 0), -1);
        for (int k : new int[] {4, 5, 29, 30, 31, Integer.MAX_VALUE, Integer.MIN_VALUE}) {
            CHECK.is("paper " + k, x.paper(k, 0), -1);
        }
        CHECK.is("papers", x.count(1), 4);
    }

    private static void thirty() {
        NoteHouse x = new NoteHouse();
        for (int k = 0; k < 30; k++) {
            CHECK.is("paper " + k, k % 2 == 0 ? x.book(2, 3, 4, 5) : x.credit(6, 7, 8), k);
        }
        CHECK.is("book 31", x.book(2, 3, 4, 5), -1);
        CHECK.is("credit 31", x.credit(2, 3, 4), -1);
        CHECK.is("papers", x.count(1), 30);
        CHECK.is("the last", x.paper(29, 1), 6);
        CHECK.is("none behind", x.paper(30, 1), -1);
    }

    private static void noted() {
        NoteHouse x = new NoteHouse();
        x.book(2, 50, 0, 10);
        x.credit(100, 0, 10);
        Check.text(x, 1, "pay if amount<200; ask if amount=200");
        x.show(1, 0, 0, 0, 0, true);
        x.show(1, 0, 0, 0, 0, true);
        x.show(1, 1, -1, 70, 0, true);
        x.show(1, 1, -1, 80, 0, false);
        x.show(1, 1, -1, 90, 0, true);
        x.show(1, 1, -1, 200, 0, true);
        x.show(1, 1, -1, 201, 0, true);
        CHECK.is("nothing is noted on a book", x.paper(0, 3), 0);
        CHECK.is("paid on the book", x.paper(0, 4), 2);
        CHECK.is("noted, above its limit too", x.paper(1, 3), 160);
        CHECK.is("paid on the credit", x.paper(1, 4), 3);
        CHECK.is("its limit stays", x.paper(1, 1), 100);
    }
}
