import java.util.ArrayList;
import java.util.List;

/**
 * A NoteHouse whose answers are kept (a boolean counts 1 or 0) and whose calls are counted: the document promises
 * nothing behind the 512th, so a test that makes more has a fault of its own.
 */
final class House {
    static final int MOST_CALLS = 512;

    private final NoteHouse it = new NoteHouse();
    private final List<Long> answers = new ArrayList<>();

    List<Long> answers() {
        return answers;
    }

    private long keep(long answer) {
        if (answers.size() == MOST_CALLS) {
            throw new IllegalStateException("a test makes more than 512 calls of one house");
        }
        answers.add(answer);
        return answer;
    }

    private long keep(boolean answer) {
        return keep(answer ? 1L : 0L);
    }

    long clock(int day) {
        return keep(it.clock(day));
    }

    long way(int a, int b, boolean wire, int days) {
        return keep(it.way(a, b, wire, days));
    }

    long post(int a, int b, int days) {
        return way(a, b, false, days);
    }

    long wire(int a, int b, int days) {
        return way(a, b, true, days);
    }

    long rate(int town, int coin, int rate) {
        return keep(it.rate(town, coin, rate));
    }

    long book(int leaves, int worth, int hand, int good) {
        return keep(it.book(leaves, worth, hand, good));
    }

    long credit(int limit, int hand, int good) {
        return keep(it.credit(limit, hand, good));
    }

    long advise(int paper, int town) {
        return keep(it.advise(paper, town));
    }

    long lose(int advice) {
        return keep(it.lose(advice));
    }

    long stop(int paper, int leaf, int town) {
        return keep(it.stop(paper, leaf, town));
    }

    long feed(int a, int b, int c, int d, int e) {
        return keep(it.feed(a, b, c, d, e));
    }

    long end(int n) {
        return keep(it.end(n));
    }

    long text(int town) {
        return keep(it.text(town));
    }

    long law() {
        return keep(it.law());
    }

    long show(int town, int paper, int leaf, int amount, int hand, boolean notes) {
        return keep(it.show(town, paper, leaf, amount, hand, notes));
    }

    /** A LEAF is shown with the HAND 0. */
    long showLeaf(int town, int paper, int leaf) {
        return show(town, paper, leaf, 0, 0, true);
    }

    /** A CREDIT is shown with the HAND 0, and noted. */
    long showCredit(int town, int paper, int amount) {
        return show(town, paper, -1, amount, 0, true);
    }

    long send(int town, int coins) {
        return keep(it.send(town, coins));
    }

    long shown(int k, int what) {
        return keep(it.shown(k, what));
    }

    long paper(int k, int what) {
        return keep(it.paper(k, what));
    }

    long comes(int kind, int k, int town) {
        return keep(it.comes(kind, k, town));
    }

    long settle(int known) {
        return keep(it.settle(known));
    }

    long settled(int k, int what) {
        return keep(it.settled(k, what));
    }

    long due(int town) {
        return keep(it.due(town));
    }

    long netted(int k, int what) {
        return keep(it.netted(k, what));
    }

    long count(int what) {
        return keep(it.count(what));
    }

    /** Puts a text behind the TAPE, a sign a byte; what the last feed has too much is cut off. */
    void tape(String text) {
        int had = (int) count(5);
        for (int k = 0; k < text.length(); k += 20) {
            feed(four(text, k), four(text, k + 4), four(text, k + 8), four(text, k + 12), four(text, k + 16));
        }
        end(had + text.length());
    }

    private static int four(String text, int k) {
        int number = 0;
        for (int j = k; j < k + 4; j++) {
            number = number << 8 | (j < text.length() ? text.charAt(j) & 255 : 0);
        }
        return number;
    }

    /** The text of a TOWN's agent. */
    long agent(int town, String text) {
        tape(text);
        return text(town);
    }

    /** The LAW. */
    long law(String text) {
        tape(text);
        return law();
    }
}
