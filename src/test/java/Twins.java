import java.util.ArrayList;
import java.util.Arrays;
import java.util.List;

/**
 * Two houses of the same calls, one of which has been told something more that it refuses: all that is asked and
 * told later is answered alike. What is asked goes beyond 512 calls, so the twins are made anew for each part of it.
 */
final class Twins {
    /** A run of calls. */
    interface Run {
        void on(House x);
    }

    /** A call, or what is asked of a house by several. */
    interface Call {
        long on(House x);
    }

    /** A call that is told its arguments (a boolean is 1 or 0). */
    interface CallOf {
        long on(House x, int[] args);
    }

    static final Run NEW = x -> { };
    static final Run BUSY = Twins::busy;
    static final Run FULL = Twins::full;

    private static final int LOOKS_AT_ONCE = 90;
    private static final List<Run> PROBES = probes();

    private Twins() {
    }

    /** Some of everything: what has come and what has not, what is lost, noted, paid, asked and refused. */
    private static void busy(House x) {
        x.post(0, 1, 3);
        x.post(1, 2, 4);
        x.wire(0, 2, 1);
        x.wire(2, 3, 2);
        x.post(11, 0, 0);
        x.rate(1, 1, 1500);
        x.rate(2, 1, 700);
        x.rate(11, 3, 99999);
        x.book(3, 100, 12345, 5);
        x.credit(1000, 54321, 9);
        x.agent(1, "ask if stopped=1;pay if hand<3;pay if left>400;refuse");
        x.agent(2, "pay");
        x.agent(11, "pay if late=0;ask if advised=0");
        x.advise(0, 1);
        x.advise(1, 2);
        x.advise(1, 1);
        x.lose(2);
        x.clock(4);
        x.stop(0, 1, 0);
        x.stop(1, -1, 2);
        x.show(1, 0, 0, 0, 12345, true);
        x.show(2, 0, 0, 0, 12345, true);
        x.show(2, 0, 1, 0, 99999, true);
        x.show(2, 1, -1, 700, 54321, true);
        x.show(1, 1, -1, 300, 54321, true);
        x.show(11, 1, -1, 301, 54321, false);
        x.law("twice half;hand 7");
        x.send(1, 50);
        x.send(2, 5000);
        x.settle(9);
        x.tape("pay if day>3;ask");
    }

    /** All that has a bound is at it: PAPERS, ADVICES, STOPS, SHOWN, the TAPE, RULES, the CLOCK. */
    private static void full(House x) {
        x.post(0, 1, 99);
        x.wire(1, 2, 99);
        x.rate(1, 3, 100000);
        x.agent(1, "pay;ask;ask;ask;ask;ask;ask;ask;ask;ask;ask;ask");
        x.agent(2, "ask");
        for (int k = 0; k < 15; k++) {
            x.book(20, 10000, 99999, 2000);
            x.credit(100000, 99999, 2000);
        }
        for (int k = 0; k < 60; k++) {
            x.advise(k % 30, k % 3);
            x.stop(k % 30, k % 2 == 0 ? 19 : -1, k % 3);
        }
        for (int k = 0; k < 200; k++) {
            x.show(1 + k % 7 / 6, k % 30, k % 2 == 0 ? k % 20 : -1, 100000, k, true);
        }
        x.send(1, 1000000);
        x.law("stopped half;forged half;twice half;over house;hand 99");
        x.settle(3000);
        x.clock(3000);
        x.tape("ask if day>3000    ;".repeat(11) + "pay if day=3000     " + " ".repeat(60));
    }

    private static List<Run> probes() {
        List<Run> list = new ArrayList<>();
        list.addAll(looks());
        list.add(Twins::tapeAsText);
        list.add(Twins::tapeAsLaw);
        list.add(Twins::tapeGoesOn);
        list.add(Twins::letters);
        list.add(x -> news(x, 0));
        list.add(x -> news(x, 6));
        for (int later : new int[] {0, 1, 2, 7}) {
            list.add(x -> showings(x, later, 0));
            list.add(x -> showings(x, later, 1));
        }
        list.add(Twins::moreOfAll);
        for (int known : new int[] {0, 4, 5, 8, 11, 3000}) {
            list.add(x -> settlement(x, known));
        }
        return list;
    }

    /** All that can be asked without telling anything, in parts. */
    private static List<Run> looks() {
        List<Call> calls = new ArrayList<>();
        for (int k = -1; k <= 35; k++) {
            int n = k;
            calls.add(x -> x.count(n));
        }
        for (int t = 0; t < 12; t++) {
            int n = t;
            calls.add(x -> x.due(n));
        }
        table(calls, 13, 4, (x, a) -> x.netted(a[0], a[1]));
        table(calls, 31, 5, (x, a) -> x.paper(a[0], a[1]));
        table(calls, 201, 9, (x, a) -> x.shown(a[0], a[1]));
        table(calls, 201, 2, (x, a) -> x.settled(a[0], a[1]));
        table(calls, 61, 12, (x, a) -> x.comes(0, a[0], a[1]));
        table(calls, 61, 12, (x, a) -> x.comes(1, a[0], a[1]));
        List<Run> runs = new ArrayList<>();
        for (int k = 0; k < calls.size(); k += LOOKS_AT_ONCE) {
            List<Call> some = calls.subList(k, Math.min(calls.size(), k + LOOKS_AT_ONCE));
            runs.add(x -> some.forEach(call -> call.on(x)));
        }
        return runs;
    }

    private static void table(List<Call> calls, int rows, int columns, CallOf call) {
        for (int r = 0; r < rows; r++) {
            for (int c = 0; c < columns; c++) {
                int[] args = {r, c};
                calls.add(x -> call.on(x, args));
            }
        }
    }

    private static void tapeAsText(House x) {
        x.text(5);
        x.count(15);
        x.count(5);
        x.showLeaf(5, 0, 0);
        x.shown((int) x.count(4) - 1, 5);
    }

    private static void tapeAsLaw(House x) {
        x.law();
        for (int what = 30; what <= 34; what++) {
            x.count(what);
        }
    }

    private static void tapeGoesOn(House x) {
        x.feed(0x3B72656F, 0x20202020, 0, 0, 0);
        x.text(6);
    }

    private static void letters(House x) {
        for (int t = 0; t < 12; t++) {
            x.advise(1, t);
            x.comes(0, (int) x.count(2) - 1, t);
        }
    }

    private static void news(House x, int first) {
        for (int t = first; t < first + 6; t++) {
            x.stop(0, -1, t);
            int k = (int) x.count(3) - 1;
            for (int to = 0; to < 12; to++) {
                x.comes(1, k, to);
            }
        }
    }

    /** What each agent does now or later with a PAPER, and what comes of it. */
    private static void showings(House x, int later, int paper) {
        x.clock((int) x.count(0) + later);
        for (int t = 0; t < 12; t++) {
            x.show(t, paper, paper == 0 ? 1 : -1, 20, paper == 0 ? 12347 : 54322, true);
            int k = (int) x.count(4) - 1;
            x.shown(k, 5);
            x.shown(k, 6);
            x.shown(k, 8);
        }
        x.settle(3000);
        for (int k = 0; k < 13; k++) {
            x.netted(k, 2);
            x.netted(k, 3);
        }
    }

    private static void moreOfAll(House x) {
        x.book(2, 2, 2, 2);
        x.credit(2, 2, 2);
        for (int t = 1; t < 12; t++) {
            x.send(t, 1);
        }
        for (int k = 0; k < 60; k++) {
            x.lose(k);
        }
        x.clock(3000);
        x.count(0);
    }

    private static void settlement(House x, int known) {
        x.settle(known);
        for (int t = 0; t < 12; t++) {
            x.due(t);
        }
        for (int k = 0; k < 13; k++) {
            for (int what = 0; what < 4; what++) {
                x.netted(k, what);
            }
        }
    }

    /** All that both houses answer from now on is the same. */
    static void alike(Check check, String name, Run one, Run other) {
        for (int p = 0; p < PROBES.size(); p++) {
            List<Long> left = answersBehind(one, PROBES.get(p));
            List<Long> right = answersBehind(other, PROBES.get(p));
            check.is(name + ": later calls answer alike, part " + p, left.equals(right), true);
        }
    }

    private static List<Long> answersBehind(Run made, Run probe) {
        House x = new House();
        made.on(x);
        int from = x.answers().size();
        probe.on(x);
        return new ArrayList<>(x.answers().subList(from, x.answers().size()));
    }

    /** A house that was made so refuses the call, and nothing happens. */
    static void refused(Check check, String name, Run made, Call call, long want) {
        House x = new House();
        made.on(x);
        check.is(name, call.on(x), want);
        alike(check, name, made, y -> {
            made.on(y);
            call.on(y);
        });
    }

    /** Each argument in turn is one of its wrong ones, the others are good: refused, by any house. */
    static void eachWrong(Check check, String name, CallOf call, int[] good, int[][] wrong, long want) {
        for (int k = 0; k < wrong.length; k++) {
            for (int n : wrong[k]) {
                int[] args = good.clone();
                args[k] = n;
                String told = name + Arrays.toString(args);
                refused(check, told + " of a new house", NEW, x -> call.on(x, args), want);
                refused(check, told + " of a busy house", BUSY, x -> call.on(x, args), want);
                refused(check, told + " of a full house", FULL, x -> call.on(x, args), want);
            }
        }
    }
}
