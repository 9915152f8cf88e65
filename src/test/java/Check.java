/** What the tests of the project share: compares answers, counts the wrong ones, feeds texts. */
final class Check {
    private int wrong = 0;
    private int asked = 0;

    void is(String call, long got, long want) {
        asked++;
        if (got != want) {
            wrong++;
            System.out.println(call + " answered " + got + ", due is " + want);
        }
    }

    void is(String call, boolean got, boolean want) {
        is(call, got ? 1L : 0L, want ? 1L : 0L);
    }

    int asked() {
        return asked;
    }

    int wrong() {
        return wrong;
    }

    void end() {
        System.out.println(asked + " answers, " + wrong + " not as due");
        if (wrong != 0) {
            System.exit(1);
        }
    }

    /** Puts a text behind the TAPE, sign by sign a byte. */
    static void feed(NoteHouse house, String text) {
        int had = house.count(5);
        int length = text.length();
        for (int k = 0; k < length; k += 20) {
            house.feed(four(text, k), four(text, k + 4), four(text, k + 8), four(text, k + 12), four(text, k + 16));
        }
        house.end(had + length);
    }

    static int text(NoteHouse house, int town, String text) {
        feed(house, text);
        return house.text(town);
    }

    static int law(NoteHouse house, String text) {
        feed(house, text);
        return house.law();
    }

    private static int four(String text, int k) {
        int number = 0;
        for (int j = k; j < k + 4; j++) {
            number = number << 8 | (j < text.length() ? text.charAt(j) & 255 : 0);
        }
        return number;
    }
}
