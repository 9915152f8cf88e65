/** Promise 13 (law), and what count tells of it. */
public final class LawTest {
    private static final Check CHECK = new Check();

    public static void main(String[] args) {
        good("", 1, 1, 0, 2, 10);
        good("    ", 1, 1, 0, 2, 10);
        good("stopped house", 0, 1, 0, 2, 10);
        good("stopped half", 2, 1, 0, 2, 10);
        good("forged house", 1, 0, 0, 2, 10);
        good("twice town", 1, 1, 1, 2, 10);
        good("over town", 1, 1, 0, 1, 10);
        good("over half", 1, 1, 0, 2, 10);
        good("hand 0", 1, 1, 0, 2, 0);
        good("hand 99", 1, 1, 0, 2, 99);
        good("hand7;over house", 1, 1, 0, 0, 7);
        good(" hand 07 ; twice  half ;stopped house;over town;forged half ", 0, 2, 2, 1, 7);
        faults();
        lengths();
        whichStays();
        CHECK.end();
    }

    private static void good(String text, int stopped, int forged, int twice, int over, int hand) {
        NoteHouse x = new NoteHouse();
        Check.law(x, "stopped half;forged half;twice half;over house;hand 33");
        CHECK.is("law " + text, Check.law(x, text), 0);
        CHECK.is("no tape behind " + text, x.count(5), 0);
        terms(x, text, stopped, forged, twice, over, hand);
    }

    private static void terms(NoteHouse x, String text, int stopped, int forged, int twice, int over, int hand) {
        CHECK.is("stopped of " + text, x.count(30), stopped);
        CHECK.is("forged of " + text, x.count(31), forged);
        CHECK.is("twice of " + text, x.count(32), twice);
        CHECK.is("over of " + text, x.count(33), over);
        CHECK.is("hand of " + text, x.count(34), hand);
    }

    private static void faults() {
        fault("good house", 0, 0);
        fault("stopped", 7, 0);
        fault("stopped  ", 9, 0);
        fault("stoppedhouse", 0, 0);
        fault("stopped all", 8, 0);
        fault("stopped forged", 8, 0);
        fault("stopped 5", 8, 0);
        fault("stopped house town", 14, 0);
        fault("stopped house;", 14, 0);
        fault("stopped house;;", 14, 0);
        fault(";", 0, 0);
        fault("7", 0, 0);
        fault("house", 0, 0);
        fault("hand", 4, 0);
        fault("hand house", 5, 0);
        fault("hand=5", 4, 0);
        fault("hand 100", 5, 1);
        fault("hand000", 4, 1);
        fault("hand 10 0", 8, 0);
        fault("hand 5 over house", 7, 0);
        fault("hand 1;hand 2", 7, 2);
        fault("hand 1; hand", 8, 2);
        fault("over half;over", 10, 2);
        fault("stopped half;stopped half", 13, 2);
        fault("forged half;twice house;forged house", 24, 2);
        fault("twice half;twice", 11, 2);
        fault("over half;hand 1;twice half;forged half;stopped half;over", 53, 2);
        fault("over half;hand 1;twice half;forged half;stopped half;x", 53, 0);
        fault("over half;hand 1;twice half;forged half;stopped half;", 53, 0);
    }

    private static void fault(String text, int place, int kind) {
        NoteHouse x = new NoteHouse();
        Check.law(x, "stopped half;forged half;twice half;over house;hand 33");
        CHECK.is("law " + text, Check.law(x, text), 1 + 4 * place + kind);
        CHECK.is("no tape behind " + text, x.count(5), 0);
        terms(x, "what stays behind " + text, 2, 2, 2, 0, 33);
    }

    private static void lengths() {
        StringBuilder blanks = new StringBuilder();
        for (int k = 0; k < 190; k++) {
            blanks.append(' ');
        }
        good(blanks + "twice half", 1, 1, 2, 2, 10);
        good(blanks + "          ", 1, 1, 0, 2, 10);
        fault(blanks + " twice half", 200, 0);
        fault(blanks + "           ", 200, 0);
        fault("x" + blanks + "          ", 200, 0);
        fault("x" + blanks + "         ", 0, 0);
        fault("hand 100" + blanks + blanks.substring(100), 200, 0);
    }

    private static void whichStays() {
        NoteHouse x = new NoteHouse();
        Check.law(x, "twice half");
        Check.law(x, "over town;twice house;twice town");
        terms(x, "a fault at the end", 1, 1, 2, 2, 10);
        Check.law(x, "over town");
        terms(x, "the next law forgets the last", 1, 1, 0, 1, 10);
        for (int k = 0; k < 3; k++) {
            Check.law(x, "stopped half;forged half;twice half;over house;hand 33");
            terms(x, "all told", 2, 2, 2, 0, 33);
        }
        Check.law(x, "");
        terms(x, "none told", 1, 1, 0, 2, 10);
    }
}
