import java.util.ArrayList;
import java.util.Arrays;
import java.util.List;

/** A second house, written in other ways than NoteHouse (but with the same readings): its answers are compared. */
final class PlainHouse {
    private static final long FAR = 1L << 40;
    private static final List<String> DEEDS = Arrays.asList("pay", "refuse", "ask");
    private static final List<String> NAMES =
        Arrays.asList("hand", "advised", "stopped", "age", "late", "amount", "left", "day");
    private static final List<String> KINDS = Arrays.asList("stopped", "forged", "twice", "over");
    private static final List<String> BEARERS = Arrays.asList("house", "town", "half");

    private record Paper(boolean isBook, int leaves, int worth, int hand, int good, int day) { }

    private record Advice(int paper, int town, long comes) { }

    private record Stop(int paper, int leaf, long[] comes) { }

    private record Paid(int town, int paper, int leaf, int amount, int deed, int rule, int coins, int day,
        long letter, int hand, boolean noted) { }

    private record Cond(String name, char sign, int number) { }

    private record Rule(int deed, List<Cond> conds) { }

    private record Token(char type, String text, int place) { }

    private record Gift(int giver, int getter, long much, int coin) { }

    private static final class Fault extends RuntimeException {
        private static final long serialVersionUID = 1L;
        final int number;

        Fault(int place, int kind) {
            number = 1 + 4 * place + kind;
        }
    }

    private int day = 0;
    private final long[][] post = new long[12][12];
    private final long[][] wire = new long[12][12];
    private final int[] coin = new int[12];
    private final int[] rate = new int[12];
    private final long[] sent = new long[12];
    private final List<Paper> papers = new ArrayList<>();
    private final List<Advice> advices = new ArrayList<>();
    private final List<Boolean> lost = new ArrayList<>();
    private final List<Stop> stops = new ArrayList<>();
    private final List<Paid> shown = new ArrayList<>();
    private final List<List<Rule>> texts = new ArrayList<>();
    private int[] law = {1, 1, 0, 2, 10};
    private StringBuilder tape = new StringBuilder();
    private final List<int[]> settled = new ArrayList<>();
    private long[] due = new long[12];
    private final List<Gift> gifts = new ArrayList<>();

    PlainHouse() {
        for (int t = 0; t < 12; t++) {
            Arrays.fill(post[t], FAR);
            Arrays.fill(wire[t], FAR);
            rate[t] = 1000;
            texts.add(new ArrayList<>());
        }
    }

    private static boolean town(int t) {
        return t >= 0 && t <= 11;
    }

    /** Floyd and Warshall's way: the days from one TOWN to all, added to today. */
    private long[] reach(int from, boolean news) {
        long[][] d = new long[12][12];
        for (int a = 0; a < 12; a++) {
            for (int b = 0; b < 12; b++) {
                d[a][b] = a == b ? 0 : news ? Math.min(post[a][b], wire[a][b]) : post[a][b];
            }
        }
        for (int m = 0; m < 12; m++) {
            for (int a = 0; a < 12; a++) {
                for (int b = 0; b < 12; b++) {
                    d[a][b] = Math.min(d[a][b], d[a][m] + d[m][b]);
                }
            }
        }
        long[] row = d[from];
        for (int t = 0; t < 12; t++) {
            row[t] = row[t] >= FAR ? FAR : row[t] + day;
        }
        return row;
    }

    boolean clock(int to) {
        boolean fine = to >= day && to <= 3000;
        day = fine ? to : day;
        return fine;
    }

    boolean way(int a, int b, boolean isWire, int days) {
        if (!town(a) || !town(b) || a == b || days < 0 || days > 99) {
            return false;
        }
        long[][] kind = isWire ? wire : post;
        kind[a][b] = kind[b][a] = days;
        return true;
    }

    boolean rate(int t, int c, int r) {
        if (!town(t) || c < 0 || c > 3 || r < 1 || r > 100000) {
            return false;
        }
        coin[t] = c;
        rate[t] = r;
        return true;
    }

    int book(int leaves, int worth, int hand, int good) {
        return leaves < 1 || leaves > 20 || worth < 1 || worth > 10000 ? -1 : make(true, leaves, worth, hand, good);
    }

    int credit(int limit, int hand, int good) {
        return limit < 1 || limit > 100000 ? -1 : make(false, 0, limit, hand, good);
    }

    private int make(boolean isBook, int leaves, int worth, int hand, int good) {
        if (hand < 0 || hand > 99999 || good < 1 || good > 2000 || papers.size() == 30) {
            return -1;
        }
        papers.add(new Paper(isBook, leaves, worth, hand, good, day));
        return papers.size() - 1;
    }

    private boolean hasPaper(int p) {
        return p >= 0 && p < papers.size();
    }

    int advise(int p, int t) {
        if (advices.size() == 60 || !hasPaper(p) || !town(t)) {
            return -1;
        }
        advices.add(new Advice(p, t, reach(0, false)[t]));
        lost.add(false);
        return advices.size() - 1;
    }

    boolean lose(int a) {
        if (a < 0 || a >= advices.size() || lost.get(a) || advices.get(a).comes <= day) {
            return false;
        }
        lost.set(a, true);
        return true;
    }

    int stop(int p, int leaf, int t) {
        if (stops.size() == 60 || !hasPaper(p) || !town(t)) {
            return -1;
        }
        if (leaf != -1 && (leaf < 0 || leaf >= papers.get(p).leaves)) {
            return -1;
        }
        stops.add(new Stop(p, leaf, reach(t, true)));
        return stops.size() - 1;
    }

    int feed(int a, int b, int c, int d, int e) {
        if (tape.length() > 280) {
            return -1;
        }
        for (int n : new int[] {a, b, c, d, e}) {
            for (int k = 3; k >= 0; k--) {
                tape.append((char) (n >>> 8 * k & 255));
            }
        }
        return tape.length();
    }

    int end(int n) {
        if (n < 0 || n > tape.length()) {
            return -1;
        }
        tape.setLength(n);
        return n;
    }

    private List<Token> tokens(String text) {
        List<Token> list = new ArrayList<>();
        int k = 0;
        while (k < text.length()) {
            int from = k;
            char c = text.charAt(k);
            if (c >= 'a' && c <= 'z') {
                while (k < text.length() && text.charAt(k) >= 'a' && text.charAt(k) <= 'z') {
                    k++;
                }
                list.add(new Token('w', text.substring(from, k), from));
            } else if (c >= '0' && c <= '9') {
                while (k < text.length() && text.charAt(k) >= '0' && text.charAt(k) <= '9') {
                    k++;
                }
                list.add(new Token('n', text.substring(from, k), from));
            } else {
                k++;
                if (c != ' ') {
                    list.add(new Token('b', text.substring(from, k), from));
                }
            }
        }
        list.add(new Token('e', "", text.length()));
        return list;
    }

    private static int number(Token token, int digits) {
        if (token.type != 'n') {
            throw new Fault(token.place, 0);
        }
        if (token.text.length() > digits) {
            throw new Fault(token.place, 1);
        }
        return Integer.parseInt(token.text);
    }

    private static int word(Token token, List<String> words) {
        int k = words.indexOf(token.text);
        if (token.type != 'w' || k < 0) {
            throw new Fault(token.place, 0);
        }
        return k;
    }

    private List<Rule> rules(List<Token> t) {
        List<Rule> rules = new ArrayList<>();
        int k = 0;
        while (t.size() > 1) {
            int deed = word(t.get(k), DEEDS);
            if (rules.size() == 12) {
                throw new Fault(t.get(k).place, 2);
            }
            k++;
            List<Cond> conds = new ArrayList<>();
            String join = "if";
            while (t.get(k).text.equals(join)) {
                String name = NAMES.get(word(t.get(k + 1), NAMES));
                if (conds.size() == 6) {
                    throw new Fault(t.get(k + 1).place, 2);
                }
                Token sign = t.get(k + 2);
                if (!sign.text.equals("<") && !sign.text.equals(">") && !sign.text.equals("=")) {
                    throw new Fault(sign.place, 0);
                }
                conds.add(new Cond(name, sign.text.charAt(0), number(t.get(k + 3), 6)));
                k += 4;
                join = "and";
            }
            rules.add(new Rule(deed, conds));
            if (t.get(k).type == 'e') {
                break;
            }
            if (!t.get(k).text.equals(";")) {
                throw new Fault(t.get(k).place, 0);
            }
            k++;
        }
        return rules;
    }

    int text(int t) {
        if (!town(t)) {
            return -1;
        }
        String text = tape.toString();
        tape = new StringBuilder();
        try {
            texts.set(t, rules(tokens(text)));
        } catch (Fault fault) {
            return -2 - fault.number;
        }
        return texts.get(t).size();
    }

    private int[] terms(List<Token> t) {
        int[] terms = {-1, -1, -1, -1, -1};
        List<String> firsts = new ArrayList<>(KINDS);
        firsts.add("hand");
        for (int k = 0; t.size() > 1; k += 3) {
            int which = word(t.get(k), firsts);
            if (terms[which] >= 0) {
                throw new Fault(t.get(k).place, 2);
            }
            terms[which] = which == 4 ? number(t.get(k + 1), 2) : word(t.get(k + 1), BEARERS);
            if (t.get(k + 2).type == 'e') {
                break;
            }
            if (!t.get(k + 2).text.equals(";")) {
                throw new Fault(t.get(k + 2).place, 0);
            }
        }
        int[] without = {1, 1, 0, 2, 10};
        for (int k = 0; k < 5; k++) {
            terms[k] = terms[k] < 0 ? without[k] : terms[k];
        }
        return terms;
    }

    int law() {
        String text = tape.toString();
        tape = new StringBuilder();
        if (text.length() > 200) {
            return 801;
        }
        try {
            law = terms(tokens(text));
        } catch (Fault fault) {
            return fault.number;
        }
        return 0;
    }

    private static int unlike(int a, int b) {
        String x = String.format("%05d", a);
        String y = String.format("%05d", b);
        int sum = 0;
        for (int k = 0; k < 5; k++) {
            sum += Math.abs(x.charAt(k) - y.charAt(k));
        }
        return sum;
    }

    private long noted(int p) {
        return shown.stream().filter(s -> s.deed == 0 && s.noted && s.paper == p && s.leaf == -1)
            .mapToLong(s -> s.amount).sum();
    }

    private boolean stopped(int p, int leaf, int t, int on) {
        return stops.stream().anyMatch(s -> s.paper == p && (s.leaf == -1 || s.leaf == leaf) && s.comes[t] <= on);
    }

    private long fact(String name, int t, int p, int leaf, int amount, int hand) {
        Paper paper = papers.get(p);
        boolean advised = false;
        for (int k = 0; k < advices.size(); k++) {
            Advice a = advices.get(k);
            advised |= !lost.get(k) && a.paper == p && a.town == t && a.comes <= day;
        }
        return switch (name) {
            case "hand" -> advised ? unlike(hand, paper.hand) : 99;
            case "advised" -> advised ? 1 : 0;
            case "stopped" -> stopped(p, leaf, t, day) ? 1 : 0;
            case "age" -> day - paper.day;
            case "late" -> day - paper.day > paper.good ? 1 : 0;
            case "amount" -> amount;
            case "left" -> paper.isBook ? paper.worth : paper.worth - noted(p);
            default -> day;
        };
    }

    int show(int t, int p, int leaf, int amount, int hand, boolean notes) {
        if (shown.size() == 200 || !town(t) || !hasPaper(p) || hand < 0 || hand > 99999) {
            return -1;
        }
        Paper paper = papers.get(p);
        if (paper.isBook ? leaf < 0 || leaf >= paper.leaves : leaf != -1 || amount < 1 || amount > 100000) {
            return -1;
        }
        int much = paper.isBook ? paper.worth : amount;
        int rule = -1;
        for (int k = 0; k < texts.get(t).size() && rule < 0; k++) {
            boolean all = true;
            for (Cond c : texts.get(t).get(k).conds) {
                long fact = fact(c.name, t, p, leaf, much, hand);
                all &= c.sign == '<' ? fact < c.number : c.sign == '>' ? fact > c.number : fact == c.number;
            }
            rule = all ? k : -1;
        }
        int deed = rule < 0 ? 1 : texts.get(t).get(rule).deed;
        int coins = deed == 0 ? (int) Math.floorDiv((long) much * rate[t], 1000L) : 0;
        long letter = deed == 0 ? reach(t, false)[0] : FAR;
        shown.add(new Paid(t, p, leaf, much, deed, rule, coins, day, letter, hand, notes));
        return deed;
    }

    int send(int t, int coins) {
        if (t < 1 || t > 11 || coins < 1 || coins > 1000000 || sent[t] + coins > 1000000000) {
            return -1;
        }
        sent[t] += coins;
        return (int) sent[t];
    }

    int shown(int k, int what) {
        if (k < 0 || k >= shown.size() || what < 0 || what > 8) {
            return -1;
        }
        Paid s = shown.get(k);
        int letter = s.letter >= FAR ? -1 : (int) s.letter;
        return new int[] {s.town, s.paper, s.leaf, s.amount, s.deed, s.rule, s.coins, s.day, letter}[what];
    }

    int paper(int k, int what) {
        if (!hasPaper(k) || what < 0 || what > 4) {
            return -1;
        }
        Paper p = papers.get(k);
        int paid = (int) shown.stream().filter(s -> s.deed == 0 && s.paper == k).count();
        return new int[] {p.leaves, p.worth, p.day, (int) noted(k), paid}[what];
    }

    int comes(int kind, int k, int t) {
        long comes = FAR;
        if (kind == 0 && k >= 0 && k < advices.size() && advices.get(k).town == t && !lost.get(k)) {
            comes = advices.get(k).comes;
        }
        if (kind == 1 && k >= 0 && k < stops.size() && town(t)) {
            comes = stops.get(k).comes[t];
        }
        return comes >= FAR ? -1 : (int) comes;
    }

    int settle(int known) {
        if (known < 0 || known > 3000) {
            return -1;
        }
        settled.clear();
        due = new long[12];
        long[] drawn = new long[30];
        List<String> leaves = new ArrayList<>();
        for (int k = 0; k < shown.size(); k++) {
            Paid s = shown.get(k);
            if (s.deed != 0 || s.letter > known) {
                continue;
            }
            Paper p = papers.get(s.paper);
            drawn[s.paper] += s.amount;
            String leaf = s.paper + "/" + s.leaf;
            int kind = stopped(s.paper, s.leaf, s.town, s.day) ? 1 : unlike(s.hand, p.hand) >= law[4] ? 2
                : p.isBook && leaves.contains(leaf) ? 3 : !p.isBook && drawn[s.paper] > p.worth ? 4 : 0;
            leaves.add(leaf);
            int bearer = kind == 0 ? 0 : law[kind - 1];
            int share = bearer == 0 ? s.coins : bearer == 1 ? 0 : s.coins / 2;
            due[s.town] += share;
            settled.add(new int[] {k, kind, share});
        }
        for (int t = 0; t < 12; t++) {
            due[t] -= sent[t];
        }
        net();
        return settled.size();
    }

    /** Queues of those that give and those that get, coin by coin. */
    private void net() {
        gifts.clear();
        for (int c = 0; c < 4; c++) {
            List<long[]> give = new ArrayList<>();
            List<long[]> get = new ArrayList<>();
            for (int t = 0; t < 12; t++) {
                if (coin[t] == c && due[t] != 0) {
                    (due[t] < 0 ? give : get).add(new long[] {t, Math.abs(due[t])});
                }
            }
            while (!give.isEmpty() && !get.isEmpty()) {
                long much = Math.min(give.get(0)[1], get.get(0)[1]);
                gifts.add(new Gift((int) give.get(0)[0], (int) get.get(0)[0], much, c));
                give.get(0)[1] -= much;
                get.get(0)[1] -= much;
                if (give.get(0)[1] == 0) {
                    give.remove(0);
                }
                if (get.get(0)[1] == 0) {
                    get.remove(0);
                }
            }
            for (long[] g : give) {
                gifts.add(new Gift((int) g[0], 12, g[1], c));
            }
            for (long[] g : get) {
                gifts.add(new Gift(12, (int) g[0], g[1], c));
            }
        }
    }

    int settled(int k, int what) {
        for (int[] s : settled) {
            if (s[0] == k && (what == 0 || what == 1)) {
                return s[1 + what];
            }
        }
        return -1;
    }

    long due(int t) {
        return town(t) ? due[t] : 0;
    }

    long netted(int k, int what) {
        if (k < 0 || k >= gifts.size() || what < 0 || what > 3) {
            return -1;
        }
        Gift g = gifts.get(k);
        return new long[] {g.giver, g.getter, g.much, g.coin}[what];
    }

    int count(int what) {
        if (what >= 10 && what <= 21) {
            return texts.get(what - 10).size();
        }
        if (what >= 30 && what <= 34) {
            return law[what - 30];
        }
        int[] first = {day, papers.size(), advices.size(), stops.size(), shown.size(), tape.length(), gifts.size()};
        return what >= 0 && what <= 6 ? first[what] : -1;
    }
}
