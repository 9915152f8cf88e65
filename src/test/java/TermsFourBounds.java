/** The sentences of the Terms' part IV: the LAW, what is SETTLED, DUE, SENT and NETTED. */
final class TermsFourBounds {
    private TermsFourBounds() {
    }

    static void all(Sentences s) {
        s.of("Terms", "THE LAW, a text of the HOUSE of at most 200 bytes:", TermsFourBounds::twoHundredBytes);
        s.of("Terms", "KIND BEARER { ; KIND BEARER }; KIND: stopped, forged, twice, over; BEARER: house, town, half;",
            TermsFourBounds::kindsAndBearers);
        s.of("Terms", "and hand NUMBER (1 to 2 digits: from how UNLIKE on a HAND is forged; 10 without).", TermsFourBounds::hand);
        s.of("Terms", "Each KIND and hand once at most;", TermsFourBounds::onceAtMost);
        s.of("Terms", "without: stopped town, forged town, twice house, over half.", TermsFourBounds::without);
        s.of("Terms", "FAULTS as in III (1 of a NUMBER of more digits; 2 a KIND, or hand, told twice, at its WORD).",
            TermsFourBounds::faults);
        s.of("Terms", "A text of blanks alone: all without.", TermsFourBounds::blanksAlone);
        TermsFourSettled.all(s);
    }

    private static void stands(Check c, House x, String name, int... terms) {
        for (int k = 0; k < 5; k++) {
            c.is(name + ": count " + (30 + k), x.count(30 + k), terms[k]);
        }
    }

    /** A law that is told to a house with another one, so that what is not told is seen to be without. */
    private static void law(Check c, String text, int... terms) {
        House x = new House();
        x.law("stopped half;forged half;twice half;over house;hand 33");
        c.is("law " + text, x.law(text), 0);
        c.is("the tape behind " + text, x.count(5), 0);
        stands(c, x, text, terms);
    }

    private static void fault(Check c, String text, int place, int kind) {
        House x = new House();
        x.law("stopped half;forged half;twice half;over house;hand 33");
        c.is("law " + text, x.law(text), 1 + 4 * place + kind);
        c.is("the tape behind " + text, x.count(5), 0);
        stands(c, x, "what it had stays, behind " + text, 2, 2, 2, 0, 33);
    }

    private static void twoHundredBytes(Check c) {
        law(c, "over town" + " ".repeat(190), 1, 1, 0, 1, 10);
        law(c, "over town" + " ".repeat(191), 1, 1, 0, 1, 10);
        law(c, " ".repeat(191) + "over town", 1, 1, 0, 1, 10);
        fault(c, "over town" + " ".repeat(192), 200, 0);
        fault(c, " ".repeat(192) + "over town", 200, 0);
        fault(c, "over town" + " ".repeat(291), 200, 0);
        fault(c, "over town" + " ".repeat(190) + ";", 200, 0);
        fault(c, "over town" + " ".repeat(190) + "x", 199, 0);
        fault(c, "over town" + " ".repeat(191) + ";", 200, 0);
        fault(c, "x" + " ".repeat(200), 200, 0);
        fault(c, "hand 100" + " ".repeat(193), 200, 0);
        fault(c, "over town;over town" + " ".repeat(182), 200, 0);
        fault(c, "x" + " ".repeat(199), 0, 0);
    }

    private static void kindsAndBearers(Check c) {
        String[] kinds = {"stopped", "forged", "twice", "over"};
        String[] bearers = {"house", "town", "half"};
        for (int k = 0; k < 4; k++) {
            for (int b = 0; b < 3; b++) {
                int[] terms = {1, 1, 0, 2, 10};
                terms[k] = b;
                law(c, kinds[k] + " " + bearers[b], terms);
            }
            fault(c, kinds[k], kinds[k].length(), 0);
            fault(c, kinds[k] + " " + kinds[k], kinds[k].length() + 1, 0);
            fault(c, kinds[k] + " all", kinds[k].length() + 1, 0);
            fault(c, kinds[k] + " 1", kinds[k].length() + 1, 0);
            fault(c, kinds[k].substring(1) + " half", 0, 0);
            fault(c, kinds[k] + "s half", 0, 0);
            fault(c, kinds[k] + "half", 0, 0);
        }
        law(c, "stopped house;forged half;twice town;over house;hand 1", 0, 2, 1, 0, 1);
        law(c, "hand 1;over house;twice town;forged half;stopped house", 0, 2, 1, 0, 1);
        law(c, "  hand  1  ;  over  house  ", 1, 1, 0, 0, 1);
        fault(c, "over half;", 10, 0);
        fault(c, "over half over half", 10, 0);
        fault(c, "house", 0, 0);
        fault(c, "good house", 0, 0);
        fault(c, "pay", 0, 0);
    }

    private static void hand(Check c) {
        law(c, "over half", 1, 1, 0, 2, 10);
        for (String n : new String[] {"0", "1", "9", "00", "01", "10", "45", "46", "98", "99"}) {
            law(c, "hand " + n, 1, 1, 0, 2, Integer.parseInt(n));
        }
        law(c, "hand99", 1, 1, 0, 2, 99);
        fault(c, "hand", 4, 0);
        fault(c, "hand ;", 5, 0);
        fault(c, "hand 100", 5, 1);
        fault(c, "hand 000", 5, 1);
        fault(c, "hand half", 5, 0);
        int[][] cases = {{0, 0, 2}, {0, 1, 0}, {1, 1, 2}, {9, 9, 2}, {9, 10, 0}, {99999, 45, 2}, {99999, 46, 0}, {99999, 99, 0}};
        for (int[] k : cases) {
            House x = new House();
            x.credit(9, 0, 1);
            x.agent(0, "pay");
            x.law("hand " + k[1]);
            x.show(0, 0, -1, 1, k[0], true);
            x.settle(0);
            c.is("hand " + k[0] + " by a law of " + k[1], x.settled(0, 0), k[2]);
        }
        House x = new House();
        x.credit(9, 0, 1);
        x.agent(0, "pay");
        x.show(0, 0, -1, 1, 9, true);
        x.show(0, 0, -1, 1, 19, true);
        x.settle(0);
        c.is("without a number: 9", x.settled(0, 0), 0);
        c.is("without a number: 10", x.settled(1, 0), 2);
    }

    private static void onceAtMost(Check c) {
        for (String one : new String[] {"stopped half", "forged half", "twice half", "over half", "hand 5"}) {
            House x = new House();
            c.is("once: " + one, x.law(one), 0);
            fault(c, one + ";" + one, one.length() + 1, 2);
            fault(c, one + "; " + one.split(" ")[0], one.length() + 2, 2);
        }
        String all = "stopped half;forged half;twice half;over half;hand 5";
        law(c, all, 2, 2, 2, 2, 5);
        for (String again : new String[] {"stopped half", "forged half", "twice half", "over half", "hand 5"}) {
            fault(c, all + ";" + again, all.length() + 1, 2);
        }
        fault(c, all + ";", all.length() + 1, 0);
        fault(c, all + ";;", all.length() + 1, 0);
        fault(c, all + "; x", all.length() + 2, 0);
        fault(c, all + "; 7", all.length() + 2, 0);
        House x = new House();
        for (int k = 0; k < 4; k++) {
            c.is("each law tells anew: one", x.law("twice half;hand 5"), 0);
            stands(c, x, "one", 1, 1, 2, 2, 5);
            c.is("each law tells anew: other", x.law("hand 6;over town;twice town"), 0);
            stands(c, x, "other", 1, 1, 1, 1, 6);
            c.is("each law tells anew: a fault", x.law("forged half;hand 7;hand 7"), 1 + 4 * 19 + 2);
            stands(c, x, "what stays", 1, 1, 1, 1, 6);
        }
    }

    private static void without(Check c) {
        stands(c, new House(), "a new house", 1, 1, 0, 2, 10);
        law(c, "stopped house", 0, 1, 0, 2, 10);
        law(c, "forged house", 1, 0, 0, 2, 10);
        law(c, "twice town", 1, 1, 1, 2, 10);
        law(c, "over town", 1, 1, 0, 1, 10);
        law(c, "hand 11", 1, 1, 0, 2, 11);
        House x = new House();
        x.book(2, 101, 0, 9);
        x.credit(100, 0, 9);
        x.agent(0, "pay");
        x.stop(0, 0, 0);
        x.showLeaf(0, 0, 0);
        x.show(0, 0, 1, 0, 99999, true);
        x.showLeaf(0, 0, 1);
        x.showCredit(0, 1, 101);
        x.settle(0);
        long[] shares = {0, 0, 101, 50};
        for (int k = 0; k < 4; k++) {
            c.is("kind " + (k + 1), x.settled(k, 0), k + 1);
            c.is("the house bears of kind " + (k + 1), x.settled(k, 1), shares[k]);
        }
    }

    private static void faults(Check c) {
        fault(c, "hand 100", 5, 1);
        fault(c, "hand  100x", 6, 1);
        fault(c, "hand 10x", 7, 0);
        fault(c, "hand 4294967297", 5, 1);
        fault(c, "hand " + "0".repeat(195), 5, 1);
        fault(c, "over half;x;over half", 10, 0);
        fault(c, "over half;over half;x", 10, 2);
        fault(c, "over half;  over", 12, 2);
        fault(c, "hand 1;hand 100", 7, 2);
        fault(c, "over half;over x", 10, 2);
        for (int b = 0; b < 256; b++) {
            char sign = (char) b;
            boolean blank = b == ' ';
            boolean letter = b >= 'a' && b <= 'z';
            boolean digit = b >= '0' && b <= '9';
            outcome(c, "", sign, blank, 0);
            outcome(c, "over", sign, false, blank ? 5 : letter ? 0 : 4);
            outcome(c, "over ", sign, false, blank ? 6 : 5);
            outcome(c, "over half", sign, blank, b == ';' ? 10 : letter ? 5 : 9);
            outcome(c, "over half ", sign, blank, b == ';' ? 11 : 10);
            outcome(c, "over half;", sign, false, blank ? 11 : 10);
            outcome(c, "hand", sign, digit, blank ? 5 : letter ? 0 : 4);
            outcome(c, "hand ", sign, digit, blank ? 6 : 5);
            outcome(c, "hand 1", sign, digit || blank, b == ';' ? 7 : 6);
            outcome(c, "hand 1 ", sign, blank, b == ';' ? 8 : 7);
        }
        wrongWords(c, "", " half", "stopped forged twice over");
        wrongWords(c, "", " 5", "hand");
        wrongWords(c, "over ", "", "house town half");
        theEnd(c);
    }

    /** Words of a list with a letter less, more, or another: their first byte is the place. */
    private static void wrongWords(Check c, String ahead, String behind, String list) {
        for (String word : list.split(" ")) {
            for (int k = 0; k < word.length(); k++) {
                char other = (char) (word.charAt(k) == 'z' ? 'a' : word.charAt(k) + 1);
                fault(c, ahead + word.substring(0, k) + other + word.substring(k + 1) + behind, ahead.length(), 0);
                fault(c, ahead + word.substring(0, k) + word.substring(k + 1) + behind, ahead.length(), 0);
            }
            fault(c, ahead + word + "a" + behind, ahead.length(), 0);
            fault(c, ahead + "a" + word + behind, ahead.length(), 0);
        }
    }

    /** The law may end at any byte, of 200 too, and what was cut off behind it is not read. */
    private static void theEnd(Check c) {
        String text = "over  house ;hand 12 ";
        int[] faults = {-1, 0, 0, 0, 4, 5, 6, 6, 6, 6, 6, -1, -1, 13, 13, 13, 13, 17, 18, -1, -1, -1};
        for (int n = 1; n <= text.length(); n++) {
            for (String behind : new String[] {"", text.substring(n), "zzzz", "9999", ";;;;", "    ", "half"}) {
                House x = new House();
                x.tape(text.substring(0, n) + behind);
                x.end(n);
                c.is("the first " + n + " of " + text + ", behind them " + behind, x.law(),
                    faults[n] < 0 ? 0 : 1 + 4 * faults[n]);
            }
            int blanks = 200 - n;
            House x = new House();
            c.is("at the end of 200: " + n, x.law(" ".repeat(blanks) + text.substring(0, n)),
                faults[n] < 0 ? 0 : 1 + 4 * (blanks + faults[n]));
        }
    }

    private static void outcome(Check c, String ahead, char sign, boolean isLaw, int place) {
        House x = new House();
        c.is("law " + ahead + ", byte " + (int) sign, x.law(ahead + sign), isLaw ? 0 : 1 + 4 * place);
    }

    private static void blanksAlone(Check c) {
        for (int n : new int[] {0, 1, 2, 20, 199, 200}) {
            law(c, " ".repeat(n), 1, 1, 0, 2, 10);
        }
        for (int n : new int[] {201, 220, 300}) {
            fault(c, " ".repeat(n), 200, 0);
        }
    }
}
