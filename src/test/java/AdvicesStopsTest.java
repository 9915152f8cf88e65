/** Promises 7 (advise), 8 (lose), 9 (stop), 18 (comes). */
public final class AdvicesStopsTest {
    private static final Check CHECK = new Check();

    public static void main(String[] args) {
        advices();
        lost();
        stops();
        comes();
        sixty();
        CHECK.end();
    }

    private static void advices() {
        NoteHouse x = new NoteHouse();
        CHECK.is("advice of no paper", x.advise(0, 1), -1);
        x.credit(10, 0, 10);
        CHECK.is("advice of paper -1", x.advise(-1, 1), -1);
        CHECK.is("advice of paper 1", x.advise(1, 1), -1);
        CHECK.is("advice to town -1", x.advise(0, -1), -1);
        CHECK.is("advice to town 12", x.advise(0, 12), -1);
        CHECK.is("none was sent", x.count(2), 0);
        x.way(0, 11, false, 4);
        x.way(11, 5, false, 4);
        CHECK.is("advice to 5", x.advise(0, 5), 0);
        x.clock(3);
        CHECK.is("advice to 11", x.advise(0, 11), 1);
        CHECK.is("advice to 0", x.advise(0, 0), 2);
        CHECK.is("advice to 7, no way", x.advise(0, 7), 3);
        CHECK.is("advices", x.count(2), 4);
        CHECK.is("comes 0", x.comes(0, 0, 5), 8);
        CHECK.is("comes 1", x.comes(0, 1, 11), 7);
        CHECK.is("comes 2", x.comes(0, 2, 0), 3);
        CHECK.is("comes 3", x.comes(0, 3, 7), -1);
        CHECK.is("does not come where it goes through", x.comes(0, 0, 11), -1);
    }

    private static void lost() {
        NoteHouse x = new NoteHouse();
        x.credit(10, 0, 10);
        x.way(0, 1, false, 4);
        x.way(0, 2, false, 0);
        x.advise(0, 1);
        x.advise(0, 1);
        x.advise(0, 2);
        x.advise(0, 0);
        x.advise(0, 3);
        CHECK.is("lose -1", x.lose(-1), false);
        for (int k : new int[] {5, 6, 59, 60, 61, Integer.MAX_VALUE, Integer.MIN_VALUE}) {
            CHECK.is("lose " + k, x.lose(k), false);
        }
        CHECK.is("lose what came at once", x.lose(2), false);
        CHECK.is("lose what came to its own", x.lose(3), false);
        CHECK.is("lose what never comes", x.lose(4), true);
        CHECK.is("lose it again", x.lose(4), false);
        Check.text(x, 1, "pay if advised=1");
        x.clock(3);
        CHECK.is("lose on the day ahead", x.lose(0), true);
        CHECK.is("lose it twice", x.lose(0), false);
        CHECK.is("lost never comes", x.comes(0, 0, 1), -1);
        CHECK.is("the other one still does", x.comes(0, 1, 1), 4);
        CHECK.is("not advised", x.show(1, 0, -1, 1, 0, true), 1);
        x.clock(4);
        CHECK.is("lose on its day", x.lose(1), false);
        CHECK.is("advised", x.show(1, 0, -1, 1, 0, true), 0);
        x.clock(5);
        CHECK.is("lose behind its day", x.lose(1), false);
        CHECK.is("it has come", x.comes(0, 1, 1), 4);
        CHECK.is("advices, lost ones too", x.count(2), 5);
        lostIsNotAdvised();
    }

    private static void lostIsNotAdvised() {
        NoteHouse x = new NoteHouse();
        x.credit(10, 0, 10);
        x.way(0, 1, false, 4);
        x.advise(0, 1);
        x.lose(0);
        Check.text(x, 1, "pay if advised=1");
        x.clock(4);
        CHECK.is("lost, so not advised", x.show(1, 0, -1, 1, 0, true), 1);
    }

    private static void stops() {
        NoteHouse x = new NoteHouse();
        x.book(3, 10, 0, 10);
        x.credit(10, 0, 10);
        CHECK.is("stop of paper -1", x.stop(-1, -1, 0), -1);
        CHECK.is("stop of paper 2", x.stop(2, -1, 0), -1);
        CHECK.is("stop of leaf -2", x.stop(0, -2, 0), -1);
        CHECK.is("stop of leaf 3", x.stop(0, 3, 0), -1);
        CHECK.is("stop of leaf 4", x.stop(0, 4, 0), -1);
        CHECK.is("stop of paper 31", x.stop(31, -1, 0), -1);
        CHECK.is("stop of a credit's leaf", x.stop(1, 0, 0), -1);
        CHECK.is("stop in town -1", x.stop(0, 0, -1), -1);
        CHECK.is("stop in town 12", x.stop(0, 0, 12), -1);
        CHECK.is("none was told", x.count(3), 0);
        CHECK.is("stop of leaf 0", x.stop(0, 0, 11), 0);
        CHECK.is("stop of leaf 2", x.stop(0, 2, 0), 1);
        CHECK.is("stop of the book", x.stop(0, -1, 4), 2);
        CHECK.is("stop of the credit", x.stop(1, -1, 4), 3);
        CHECK.is("stops", x.count(3), 4);
        whatIsStopped();
    }

    private static void whatIsStopped() {
        NoteHouse x = new NoteHouse();
        x.book(3, 10, 0, 10);
        x.book(3, 10, 0, 10);
        x.credit(10, 0, 10);
        x.credit(10, 0, 10);
        x.way(0, 1, true, 2);
        Check.text(x, 1, "ask if stopped=1;pay if stopped=0");
        x.stop(0, 1, 1);
        CHECK.is("another leaf", x.show(1, 0, 0, 0, 0, true), 0);
        CHECK.is("that leaf", x.show(1, 0, 1, 0, 0, true), 2);
        CHECK.is("another book", x.show(1, 1, 1, 0, 0, true), 0);
        x.stop(0, -1, 0);
        CHECK.is("the book, not yet come", x.show(1, 0, 0, 0, 0, true), 0);
        x.stop(2, -1, 0);
        x.clock(1);
        CHECK.is("the credit, not yet come", x.show(1, 2, -1, 1, 0, true), 0);
        x.clock(2);
        CHECK.is("the book, come", x.show(1, 0, 0, 0, 0, true), 2);
        CHECK.is("the credit, come", x.show(1, 2, -1, 1, 0, true), 2);
        CHECK.is("another credit", x.show(1, 3, -1, 1, 0, true), 0);
        x.clock(50);
        CHECK.is("stopped for good", x.show(1, 2, -1, 1, 0, true), 2);
    }

    private static void comes() {
        NoteHouse x = new NoteHouse();
        x.book(3, 10, 0, 10);
        x.way(0, 1, false, 2);
        x.advise(0, 1);
        x.stop(0, 0, 1);
        CHECK.is("kind -1", x.comes(-1, 0, 1), -1);
        CHECK.is("kind 2", x.comes(2, 0, 1), -1);
        CHECK.is("advice -1", x.comes(0, -1, 1), -1);
        CHECK.is("advice 1", x.comes(0, 1, 1), -1);
        CHECK.is("stop -1", x.comes(1, -1, 1), -1);
        for (int k : new int[] {1, 2, 59, 60, 61, Integer.MAX_VALUE, Integer.MIN_VALUE}) {
            CHECK.is("stop " + k, x.comes(1, k, 1), -1);
            CHECK.is("advice " + k, x.comes(0, k, 1), -1);
        }
        CHECK.is("advice, town -1", x.comes(0, 0, -1), -1);
        CHECK.is("advice, town 12", x.comes(0, 0, 12), -1);
        CHECK.is("stop, town -1", x.comes(1, 0, -1), -1);
        CHECK.is("stop, town 12", x.comes(1, 0, 12), -1);
        CHECK.is("advice, its town", x.comes(0, 0, 1), 2);
        CHECK.is("advice, the house's", x.comes(0, 0, 0), -1);
        CHECK.is("stop, its town", x.comes(1, 0, 1), 0);
        CHECK.is("stop, the house's", x.comes(1, 0, 0), 2);
    }

    private static void sixty() {
        NoteHouse x = new NoteHouse();
        x.book(3, 10, 0, 10);
        for (int k = 0; k < 60; k++) {
            CHECK.is("advice " + k, x.advise(0, 1), k);
            CHECK.is("stop " + k, x.stop(0, -1, 1), k);
        }
        CHECK.is("advice 61", x.advise(0, 1), -1);
        CHECK.is("stop 61", x.stop(0, -1, 1), -1);
        CHECK.is("60 advices", x.count(2), 60);
        CHECK.is("60 stops", x.count(3), 60);
        CHECK.is("the last advice", x.lose(59), true);
        CHECK.is("the last stop", x.comes(1, 59, 1), 0);
        CHECK.is("no advice 60", x.lose(60), false);
        CHECK.is("no stop 60", x.comes(1, 60, 1), -1);
    }
}
