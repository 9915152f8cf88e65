/** The sentences of the Terms' part III: texts, their FAULTS, NAMES, and what is SHOWN. */
final class TermsThreeBounds {
    private TermsThreeBounds() {
    }

    static void all(Sentences s) {
        s.of("Terms", "Each TOWN holds a text of at most 300 bytes (none at first):", TermsThreeBounds::threeHundredBytes);
        s.of("Terms", "RULE { ; RULE }, 12 at most.", TermsThreeBounds::twelveRules);
        s.of("Terms", "RULE: pay | refuse | ask, perhaps if COND { and COND }, 6 at most.", TermsThreeBounds::sixConds);
        s.of("Terms", "COND: NAME SIGN NUMBER. SIGN: < > =.", TermsThreeBounds::signs);
        s.of("Terms", "NUMBERS: digits, 1 to 6.", TermsThreeBounds::numbers);
        s.of("Terms", "WORDS: small letters, as far as these go on; NUMBERS as far as digits go on; blanks (32) between.",
            TermsThreeBounds::wordsAndBlanks);
        s.of("Terms", "FAULTS, the first along the text, 1 + 4 * its place and:", TermsThreeBounds::firstFault);
        s.of("Terms", "0 a byte or WORD that can't stand there (its first byte), or the end (behind the last byte);",
            TermsThreeBounds::wrongBytes);
        s.of("Terms", "1 a NUMBER of more digits;", TermsThreeBounds::longNumbers);
        s.of("Terms", "2 the 13th RULE, the 7th COND (at the first WORD).", TermsThreeBounds::thirteenthAndSeventh);
        s.of("Terms", "A text of blanks alone has no RULES.", TermsThreeBounds::blanksAlone);
        TermsThreeNames.all(s);
    }

    private static void rules(Check c, String text, int want) {
        House x = new House();
        c.is("text " + text, x.agent(3, text), want);
        c.is("rules of " + text, x.count(13), want);
        c.is("the tape behind " + text, x.count(5), 0);
    }

    private static void fault(Check c, String text, int place, int kind) {
        House x = new House();
        x.agent(3, "ask;ask");
        c.is("text " + text, x.agent(3, text), -2 - (1 + 4 * place + kind));
        c.is("what it had stays, behind " + text, x.count(13), 2);
        c.is("the tape behind " + text, x.count(5), 0);
    }

    private static void threeHundredBytes(Check c) {
        House none = new House();
        none.credit(1, 0, 1);
        for (int t = 0; t < 12; t++) {
            c.is("no text at first, of " + t, none.count(10 + t), 0);
            c.is("so it refuses, in " + t, none.showCredit(t, 0, 1), 1);
            c.is("without a rule, in " + t, none.shown(t, 5), -1);
        }
        String blanks = " ".repeat(297);
        rules(c, "ask" + blanks.substring(1), 1);
        rules(c, "ask" + blanks, 1);
        rules(c, blanks + "ask", 1);
        rules(c, "ask if day=1;".repeat(11) + "ask if" + " ".repeat(300 - 143 - 6 - 5) + "day=1", 12);
        fault(c, blanks + "as;", 297, 0);
        fault(c, blanks.substring(1) + "ask;", 300, 0);
        House x = new House();
        x.tape(blanks + "ask");
        c.is("300 bytes", x.count(5), 300);
        c.is("no more come", x.feed(0x20202020, 0x20202020, 0x20202020, 0x20202020, 0x20202020), -1);
        c.is("so the text is of 300", x.text(3), 1);
    }

    private static void twelveRules(Check c) {
        rules(c, "pay", 1);
        rules(c, "pay;refuse", 2);
        rules(c, "pay" + ";pay".repeat(10), 11);
        rules(c, "pay" + ";pay".repeat(11), 12);
        fault(c, "pay" + ";pay".repeat(12), 48, 2);
        House x = new House();
        x.credit(9, 0, 1);
        x.agent(1, "ask if day>0" + ";ask if day>0".repeat(10) + ";pay");
        c.is("the twelfth rule is done", x.showCredit(1, 0, 1), 0);
        c.is("rule 11", x.shown(0, 5), 11);
    }

    private static void sixConds(Check c) {
        String five = "ask if day=0" + " and day=0".repeat(4);
        rules(c, five, 1);
        rules(c, five + " and day=0", 1);
        fault(c, five + " and day=0 and day=0", 67, 2);
        rules(c, five + " and day=0;" + five + " and day=0", 2);
        rules(c, "pay;refuse;ask", 3);
        String[] deeds = {"pay", "refuse", "ask"};
        for (int k = 0; k < 3; k++) {
            House x = new House();
            x.credit(9, 0, 1);
            x.agent(1, deeds[k]);
            c.is("without a cond: " + deeds[k], x.showCredit(1, 0, 1), k);
            x.agent(1, deeds[k] + " if day=0" + " and day=0".repeat(5));
            c.is("six conds that are so: " + deeds[k], x.showCredit(1, 0, 1), k);
            c.is("rule 0: " + deeds[k], x.shown(1, 5), 0);
            for (int not = 0; not < 6; not++) {
                String conds = "day=0 and ".repeat(not) + "day=1" + " and day=0".repeat(5 - not);
                x.agent(1, deeds[k] + " if " + conds);
                x.showCredit(1, 0, 1);
                c.is("cond " + not + " is not so: " + deeds[k], x.shown(2 + not, 5), -1);
            }
        }
    }

    private static void signs(Check c) {
        int[][] cases = {{'<', 4, 1}, {'<', 5, 1}, {'<', 6, 2}, {'>', 4, 2}, {'>', 5, 1}, {'>', 6, 1}, {'=', 4, 1},
            {'=', 5, 2}, {'=', 6, 1}};
        for (int[] k : cases) {
            House x = new House();
            x.credit(9, 0, 1);
            String text = "ask if amount" + (char) k[0] + k[1];
            c.is(text, x.agent(1, text), 1);
            c.is(text + ", of 5", x.showCredit(1, 0, 5), k[2]);
        }
        for (String sign : new String[] {"<=", ">=", "==", "<>", "=<"}) {
            fault(c, "ask if amount" + sign + "5", 14, 0);
        }
        fault(c, "ask if amount 5", 14, 0);
        fault(c, "ask if amount5", 13, 0);
        fault(c, "ask if amount!5", 13, 0);
        fault(c, "ask if 5<amount", 7, 0);
        fault(c, "ask if amount<day", 14, 0);
    }

    private static void numbers(Check c) {
        String[] good = {"0", "1", "9", "10", "99999", "100000", "999999", "000000", "000001", "012345"};
        for (String n : good) {
            House x = new House();
            x.credit(100000, 0, 1);
            c.is("the number " + n, x.agent(1, "ask if amount=" + n + ";pay if amount<" + n), 2);
            int value = Integer.parseInt(n);
            boolean canBe = value >= 1 && value <= 100000;
            c.is("an amount of " + n, x.showCredit(1, 0, value), canBe ? 2 : -1);
            c.is("an amount of 1, by " + n, x.showCredit(1, 0, 1), value == 1 ? 2 : value > 1 ? 0 : 1);
        }
        fault(c, "ask if amount=", 14, 0);
        fault(c, "ask if amount=;", 14, 0);
        fault(c, "ask if amount=1000000", 14, 1);
        fault(c, "ask if amount=0000000", 14, 1);
    }

    private static void wordsAndBlanks(Check c) {
        rules(c, "ask if day<1and age<1", 1);
        rules(c, "ask if day<1and age<1;pay", 2);
        rules(c, "  ask  if  day  <  1  and  age  =  2  ;  pay  ", 2);
        rules(c, "ask if day<1 ;pay;refuse if age>2", 3);
        fault(c, "askif day<1", 0, 0);
        fault(c, "ask ifday<1", 4, 0);
        fault(c, "ask if day<1 andage<1", 13, 0);
        fault(c, "as k", 0, 0);
        fault(c, "ask i f", 4, 0);
        fault(c, "ask if da y<1", 7, 0);
        fault(c, "ask if day<1 2", 13, 0);
        fault(c, "ask if day<12and1", 16, 0);
        fault(c, "Ask", 0, 0);
        fault(c, "asK", 0, 0);
        fault(c, "aSk", 0, 0);
        for (String blank : new String[] {"\t", "\n", "\r", "\u0000", "\u001f", "!", "\u00a0"}) {
            fault(c, "ask" + blank + "if day<1", 3, 0);
        }
    }

    private static void firstFault(Check c) {
        fault(c, "x", 0, 0);
        fault(c, "x;ask if day=1234567", 0, 0);
        fault(c, "ask if day=1234567;x", 11, 1);
        fault(c, "ask;x;ask if day=1234567", 4, 0);
        fault(c, "pay;".repeat(12) + "pay;x", 48, 2);
        fault(c, "pay;".repeat(11) + "x;pay", 44, 0);
        fault(c, "ask if day=1" + " and day=1".repeat(6) + ";x", 67, 2);
        fault(c, "ask if day=1" + " and day=1".repeat(5) + ";x", 63, 0);
        fault(c, "pay;".repeat(11) + "pay if day=1" + " and day=1".repeat(6) + ";pay", 111, 2);
        fault(c, " ".repeat(299) + "x", 299, 0);
    }

    /** Each of the 256 bytes behind texts that end at each kind of place. */
    private static void wrongBytes(Check c) {
        for (int b = 0; b < 256; b++) {
            char sign = (char) b;
            boolean blank = b == ' ';
            boolean letter = b >= 'a' && b <= 'z';
            boolean digit = b >= '0' && b <= '9';
            outcome(c, "", sign, blank ? 0 : -1, 0);
            outcome(c, "pay", sign, blank ? 1 : -1, b == ';' ? 4 : letter ? 0 : 3);
            outcome(c, "pay ", sign, blank ? 1 : -1, b == ';' ? 5 : 4);
            outcome(c, "pay;", sign, -1, blank ? 5 : 4);
            outcome(c, "pay if", sign, -1, blank ? 7 : letter ? 4 : 6);
            outcome(c, "pay if ", sign, -1, blank ? 8 : 7);
            outcome(c, "pay if day", sign, -1, blank || b == '<' || b == '=' || b == '>' ? 11 : letter ? 7 : 10);
            outcome(c, "pay if day ", sign, -1, blank || b == '<' || b == '=' || b == '>' ? 12 : 11);
            outcome(c, "pay if day>", sign, digit ? 1 : -1, blank ? 12 : 11);
            outcome(c, "pay if day>1", sign, digit || blank ? 1 : -1, b == ';' ? 13 : 12);
            outcome(c, "pay if day>1 ", sign, blank ? 1 : -1, b == ';' ? 14 : 13);
            outcome(c, "pay if day>1 and ", sign, -1, blank ? 18 : 17);
        }
        wrongWords(c, "", "", "pay refuse ask");
        wrongWords(c, "ask ", " day=1", "if");
        wrongWords(c, "ask if ", "=1", "hand advised stopped age late amount left day");
        wrongWords(c, "ask if day=1 ", " age=1", "and");
        theEnd(c);
    }

    /** Words of a list with a letter less, more, or another: their first byte is the place. */
    private static void wrongWords(Check c, String ahead, String behind, String list) {
        for (String word : list.split(" ")) {
            rules(c, ahead + word + behind, 1);
            for (int k = 0; k < word.length(); k++) {
                char other = (char) (word.charAt(k) == 'z' ? 'a' : word.charAt(k) + 1);
                fault(c, ahead + word.substring(0, k) + other + word.substring(k + 1) + behind, ahead.length(), 0);
                fault(c, ahead + word.substring(0, k) + word.substring(k + 1) + behind, ahead.length(), 0);
            }
            fault(c, ahead + word + "a" + behind, ahead.length(), 0);
            fault(c, ahead + "a" + word + behind, ahead.length(), 0);
        }
    }

    /** The text may end at any byte, of a full TAPE too, and what was cut off behind it is not read. */
    private static void theEnd(Check c) {
        String text = "ask if day > 123456 and age=1 ;pay";
        int[] faults = {0, 0, 0, -1, -1, 4, 6, 7, 7, 7, 10, 11, 12, 13, -1, -1, -1, -1, -1, -1, -1, 20, 20, 23, 24, 24, 24, 27,
            28, -1, -1, 31, 31, 31, -1};
        for (int n = 1; n <= text.length(); n++) {
            boolean isText = faults[n] < 0;
            int rules = n == text.length() ? 2 : 1;
            for (String behind : new String[] {"", text.substring(n), "zzzz", "9999", "====", ";;;;", "    ", "pay"}) {
                House x = new House();
                x.tape(text.substring(0, n) + behind);
                x.end(n);
                c.is("the first " + n + " of " + text + ", behind them " + behind, x.text(1), isText ? rules : -3 - 4 * faults[n]);
            }
            int blanks = 300 - n;
            House x = new House();
            c.is("at the end of 300: " + n, x.agent(1, " ".repeat(blanks) + text.substring(0, n)),
                isText ? rules : -3 - 4 * (blanks + faults[n]));
        }
    }

    private static void outcome(Check c, String ahead, char sign, int rules, int place) {
        House x = new House();
        c.is("text " + ahead + ", byte " + (int) sign, x.agent(3, ahead + sign), rules >= 0 ? rules : -3 - 4 * place);
    }

    private static void longNumbers(Check c) {
        rules(c, "ask if day=123456", 1);
        fault(c, "ask if day=1234567", 11, 1);
        fault(c, "ask if day=  1234567  ", 13, 1);
        fault(c, "ask if day=" + "0".repeat(289), 11, 1);
        fault(c, "ask if day=1234567x", 11, 1);
        fault(c, "ask if day=123456x", 17, 0);
        fault(c, "ask if day=99999999999999999999", 11, 1);
        fault(c, "ask if day=4294967297", 11, 1);
        fault(c, "ask if day=1 and age=1234567", 21, 1);
        fault(c, "ask if 1234567", 7, 0);
        fault(c, "ask 1234567", 4, 0);
        fault(c, "1234567", 0, 0);
    }

    private static void thirteenthAndSeventh(Check c) {
        String twelve = "pay" + ";pay".repeat(11);
        String six = "pay if day=0" + " and day=0".repeat(5);
        rules(c, twelve, 12);
        fault(c, twelve + ";pay", 48, 2);
        fault(c, twelve + ";  refuse", 50, 2);
        fault(c, twelve + "  ;  ask if x", 52, 2);
        fault(c, twelve + ";", 48, 0);
        fault(c, twelve + ";x", 48, 0);
        fault(c, twelve + ";;", 48, 0);
        rules(c, six, 1);
        fault(c, six + " and day=0", 67, 2);
        fault(c, six + "  and  left", 69, 2);
        fault(c, six + " and", 66, 0);
        fault(c, six + " and x", 67, 0);
        fault(c, six + " and 7", 67, 0);
        fault(c, "pay;" + six + ";" + six + " and age", 4 + 62 + 1 + 67, 2);
    }

    private static void blanksAlone(Check c) {
        for (int n : new int[] {0, 1, 2, 19, 20, 21, 299, 300}) {
            rules(c, " ".repeat(n), 0);
            House x = new House();
            x.credit(9, 0, 1);
            x.agent(1, "pay;ask");
            c.is("blanks " + n, x.agent(1, " ".repeat(n)), 0);
            c.is("the rules it had are gone: " + n, x.count(11), 0);
            c.is("it refuses: " + n, x.showCredit(1, 0, 1), 1);
            c.is("without a rule: " + n, x.shown(0, 5), -1);
        }
    }
}
