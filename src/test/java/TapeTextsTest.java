/** Promises 10 (feed), 11 (end), 12 (text). */
public final class TapeTextsTest {
    private static final Check CHECK = new Check();

    public static void main(String[] args) {
        feed();
        end();
        goodTexts();
        faults();
        longTexts();
        tooMany();
        whichStays();
        tapeThen();
        CHECK.end();
    }

    private static void feed() {
        NoteHouse x = new NoteHouse();
        for (int k = 1; k <= 15; k++) {
            CHECK.is("feed " + k, x.feed(0x20202020, 0x20202020, 0x20202020, 0x20202020, 0x20202020), 20 * k);
        }
        CHECK.is("feed 16", x.feed(0, 0, 0, 0, 0), -1);
        CHECK.is("300 stay", x.count(5), 300);
        x.end(281);
        CHECK.is("281 + 20", x.feed(0, 0, 0, 0, 0), -1);
        CHECK.is("281 stay", x.count(5), 281);
        x.end(280);
        CHECK.is("280 + 20", x.feed(0x20202020, 0x20202020, 0x20202020, 0x20202020, 0x2020FF20), 300);
        CHECK.is("the place of the wrong byte", x.text(0), -2 - (1 + 4 * 298));
        x.feed(0x70617920, 0x69662068, 0x616E643C, 0x333B6173, 0x6B202020);
        CHECK.is("the highest byte first", x.text(0), 2);
    }

    private static void end() {
        NoteHouse x = new NoteHouse();
        CHECK.is("end 0 of none", x.end(0), 0);
        CHECK.is("end 1 of none", x.end(1), -1);
        x.feed(0, 0, 0, 0, 0);
        CHECK.is("end 21 of 20", x.end(21), -1);
        CHECK.is("end -1", x.end(-1), -1);
        CHECK.is("end min", x.end(Integer.MIN_VALUE), -1);
        CHECK.is("20 stay", x.count(5), 20);
        CHECK.is("end 20 of 20", x.end(20), 20);
        CHECK.is("end 7", x.end(7), 7);
        CHECK.is("7 stay", x.count(5), 7);
        CHECK.is("end 8 of 7", x.end(8), -1);
        CHECK.is("feed behind 7", x.feed(0, 0, 0, 0, 0), 27);
        CHECK.is("end 0", x.end(0), 0);
        CHECK.is("none stay", x.count(5), 0);
    }

    private static void goodTexts() {
        rules("", 0);
        rules(" ", 0);
        rules("pay", 1);
        rules("refuse", 1);
        rules("ask", 1);
        rules("  ask  ", 1);
        rules("ask;pay;refuse", 3);
        rules(" ask ; pay ;refuse ", 3);
        rules("pay if hand<3", 1);
        rules("pay if hand < 3 and advised = 1 ;refuse", 2);
        rules("pay if hand<3and day>1;ask if late=1", 2);
        rules("pay if hand<0 and advised<0 and stopped<0 and age<0 and late<0 and amount<0", 1);
        rules("pay if left=999999 and day>000000", 1);
    }

    private static void rules(String text, int want) {
        NoteHouse x = new NoteHouse();
        CHECK.is("text " + text, Check.text(x, 11, text), want);
        CHECK.is("its rules: " + text, x.count(21), want);
        CHECK.is("no tape behind " + text, x.count(5), 0);
    }

    private static void faults() {
        fault("x", 0, 0);
        fault("  x", 2, 0);
        fault("Pay", 0, 0);
        fault("payx", 0, 0);
        fault("payif hand<3", 0, 0);
        fault("pay ifhand<3", 4, 0);
        fault(";", 0, 0);
        fault("pay;;ask", 4, 0);
        fault("pay; ", 5, 0);
        fault("pay if  ", 8, 0);
        fault("pay ask", 4, 0);
        fault("pay 7", 4, 0);
        fault("pay and hand<3", 4, 0);
        fault("payA", 3, 0);
        fault("pay\t", 3, 0);
        fault("pay" + (char) 0, 3, 0);
        fault("pay" + (char) 255, 3, 0);
        fault("pay" + (char) 160, 3, 0);
        fault("1234567", 0, 0);
        fault("pay if if", 7, 0);
        fault("pay if 1234567", 7, 0);
        fault("pay if hAnd<3", 7, 0);
        fault("pay if hands<3", 7, 0);
        fault("pay if han<3", 7, 0);
        fault("pay if hand", 11, 0);
        fault("pay if hand 3", 12, 0);
        fault("pay if hand!3", 11, 0);
        fault("pay if hand and", 12, 0);
        fault("pay if hand<", 12, 0);
        fault("pay if hand<<3", 12, 0);
        fault("pay if hand<x", 12, 0);
        fault("pay if hand<-3", 12, 0);
        fault("pay if hand<=3", 12, 0);
        fault("pay if hand<1234567", 12, 1);
        fault("pay if hand< 0000000x", 13, 1);
        fault("pay if hand<123456 7", 19, 0);
        fault("pay if hand<3x", 13, 0);
        fault("pay if hand<3 if", 14, 0);
        fault("pay if hand<3 and", 17, 0);
        fault("pay if hand<3 and;", 17, 0);
        fault("pay if hand<3 andday<3", 14, 0);
        fault("pay if hand<3 pay", 14, 0);
        fault("pay if hand<3;if", 14, 0);
        fault("pay if hand<3;askk if", 14, 0);
        fault("pay if hand<3;as", 14, 0);
    }

    private static void fault(String text, int place, int kind) {
        NoteHouse x = new NoteHouse();
        Check.text(x, 3, "ask;ask");
        CHECK.is("text " + text, Check.text(x, 3, text), -2 - (1 + 4 * place + kind));
        CHECK.is("stays behind " + text, x.count(13), 2);
        CHECK.is("no tape behind " + text, x.count(5), 0);
    }

    private static void longTexts() {
        StringBuilder blanks = new StringBuilder();
        for (int k = 0; k < 297; k++) {
            blanks.append(' ');
        }
        rules(blanks + "pay", 1);
        rules(blanks + "   ", 0);
        rules("pay if day<" + blanks.substring(14) + "123456", 1);
        fault("pay if day<" + blanks.substring(15) + "1234567", 293, 1);
        fault(blanks + "pa ", 297, 0);
        fault(blanks + "pa;", 297, 0);
        fault(blanks.substring(2) + "pay; ", 300, 0);
    }

    private static void tooMany() {
        StringBuilder rules = new StringBuilder("ask");
        StringBuilder conds = new StringBuilder("pay if age>0");
        for (int k = 1; k < 12; k++) {
            rules.append(";ask");
        }
        for (int k = 1; k < 6; k++) {
            conds.append(" and age>0");
        }
        rules(rules.toString(), 12);
        fault(rules + ";", 48, 0);
        fault(rules + "; pay if", 49, 2);
        fault(rules + "; nay", 49, 0);
        fault(rules + "; 7", 49, 0);
        rules(conds.toString(), 1);
        rules(conds + ";" + conds, 2);
        fault(conds + " and", 66, 0);
        fault(conds + " and  day", 68, 2);
        fault(conds + " and  days", 68, 0);
        fault(conds + " if", 63, 0);
    }

    private static void whichStays() {
        NoteHouse x = new NoteHouse();
        x.credit(10, 0, 10);
        Check.text(x, 1, "pay");
        Check.text(x, 2, "ask;pay if day<0;refuse");
        CHECK.is("a fault", Check.text(x, 1, "ask;ask;refuse if"), -2 - (1 + 4 * 17));
        CHECK.is("1 still pays", x.show(1, 0, -1, 1, 0, true), 0);
        CHECK.is("2 still asks", x.show(2, 0, -1, 1, 0, true), 2);
        CHECK.is("rules of 1", x.count(11), 1);
        CHECK.is("rules of 2", x.count(12), 3);
        CHECK.is("anew", Check.text(x, 1, "refuse;pay"), 2);
        CHECK.is("1 refuses now", x.show(1, 0, -1, 1, 0, true), 1);
        CHECK.is("by rule 0", x.shown(2, 5), 0);
        CHECK.is("blanks", Check.text(x, 2, " "), 0);
        CHECK.is("2 refuses now", x.show(2, 0, -1, 1, 0, true), 1);
        CHECK.is("by none", x.shown(3, 5), -1);
        for (int k = 0; k < 3; k++) {
            CHECK.is("with a cond", Check.text(x, 2, "pay if day>9;ask if day>9"), 2);
            CHECK.is("it is not so", x.show(2, 0, -1, 1, 0, true), 1);
            CHECK.is("without one", Check.text(x, 2, "pay;ask"), 2);
            CHECK.is("it is paid", x.show(2, 0, -1, 1, 0, true), 0);
        }
    }

    private static void tapeThen() {
        NoteHouse x = new NoteHouse();
        Check.feed(x, "pay");
        CHECK.is("text of -1", x.text(-1), -1);
        CHECK.is("text of 12", x.text(12), -1);
        CHECK.is("the tape stays", x.count(5), 3);
        CHECK.is("text of 0", x.text(0), 1);
        CHECK.is("the tape is empty", x.count(5), 0);
        CHECK.is("the empty tape", x.text(0), 0);
        Check.feed(x, "pay if day<1234567;pay");
        x.end(17);
        CHECK.is("what was cut off is not read: a number", x.text(0), 1);
        Check.feed(x, "pay;ask  ");
        x.end(5);
        CHECK.is("what was cut off is not read: a word", x.text(0), -2 - (1 + 4 * 4));
        Check.feed(x, "pay;ask");
        x.end(3);
        CHECK.is("what was cut off is not read: a sign", x.text(0), 1);
        x.text(0);
        CHECK.is("no rules", x.count(10), 0);
    }
}
