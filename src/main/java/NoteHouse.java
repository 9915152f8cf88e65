import java.util.Arrays;

/**
 * A house of circular notes. The document's words in capitals (TOWN, PAPER, LEAF ..) are used in the
 * comments as the document uses them; its promises say what each public call answers.
 */
public final class NoteHouse {
    public static final int NONE = -1;

    private static final int TOWNS = 12;
    private static final int TOWN_OF_HOUSE = 0;
    private static final int HOUSE = 12;
    private static final int COINS = 4;
    private static final int LAST_DAY = 3000;
    private static final int MOST_WAY_DAYS = 99;
    private static final int NO_WAY = 1000000;
    private static final int MOST_RATE = 100000;
    private static final int PLAIN_RATE = 1000;

    private static final int MOST_PAPERS = 30;
    private static final int MOST_LEAVES = 20;
    private static final int MOST_WORTH = 10000;
    private static final int MOST_LIMIT = 100000;
    private static final int MOST_HAND = 99999;
    private static final int HAND_DIGITS = 5;
    private static final int MOST_GOOD_DAYS = 2000;
    private static final int MOST_ADVICES = 60;
    private static final int MOST_STOPS = 60;
    private static final int MOST_SHOWN = 200;
    private static final int MOST_SENT_AT_ONCE = 1000000;
    private static final int MOST_SENT = 1000000000;

    private static final int MOST_BYTES = 300;
    private static final int MOST_LAW_BYTES = 200;
    private static final int MOST_RULES = 12;
    private static final int MOST_CONDS = 6;
    private static final int RULE_DIGITS = 6;
    private static final int LAW_DIGITS = 2;

    private static final int FAULT_WRONG = 0;
    private static final int FAULT_LONG_NUMBER = 1;
    private static final int FAULT_EXCESS = 2;
    private static final int TOO_LONG = -2;

    private static final int PAID = 0;
    private static final int REFUSED = 1;
    private static final String DEEDS = "pay refuse ask";

    private static final String NAMES = "hand advised stopped age late amount left day";
    private static final int FACTS = 8;
    private static final int FACT_HAND = 0;
    private static final int FACT_ADVISED = 1;
    private static final int FACT_STOPPED = 2;
    private static final int FACT_AGE = 3;
    private static final int FACT_LATE = 4;
    private static final int FACT_AMOUNT = 5;
    private static final int FACT_LEFT = 6;
    private static final int FACT_DAY = 7;
    private static final int UNKNOWN_HAND = 99;

    private static final String CLAUSES = "stopped forged twice over hand";
    private static final int CLAUSE_HAND = 4;
    private static final String BEARERS = "house town half";
    private static final int BY_HOUSE = 0;
    private static final int BY_TOWN = 1;
    private static final int BY_HALF = 2;
    private static final int PLAIN_FORGED_FROM = 10;

    private static final int KINDS = 4;
    private static final int GOOD = 0;
    private static final int STOPPED = 1;
    private static final int FORGED = 2;
    private static final int TWICE = 3;
    private static final int OVER = 4;

    private final Ways ways;
    private final Town[] towns;
    private final Paper[] papers;
    private final Advice[] advices;
    private final Stop[] stops;
    private final Shown[] showings;
    private final Tape tape;
    private final Settlement latest;
    private final int[] facts;
    private Agent spareAgent;
    private Law theLaw;
    private Law spareLaw;
    private int today;
    private int paperCount;
    private int adviceCount;
    private int stopCount;
    private int shownCount;

    public NoteHouse() {
        ways = new Ways();
        towns = new Town[TOWNS];
        for (int t = 0; t < TOWNS; t++) {
            towns[t] = new Town();
        }
        papers = new Paper[MOST_PAPERS];
        advices = new Advice[MOST_ADVICES];
        stops = new Stop[MOST_STOPS];
        showings = new Shown[MOST_SHOWN];
        tape = new Tape();
        latest = new Settlement();
        facts = new int[FACTS];
        spareAgent = new Agent();
        theLaw = new Law();
        spareLaw = new Law();
    }

    public boolean clock(int day) {
        if (day < today || day > LAST_DAY) {
            return false;
        }
        today = day;
        return true;
    }

    public boolean way(int a, int b, boolean wire, int days) {
        if (!isTown(a) || !isTown(b) || a == b || !isWithin(days, 0, MOST_WAY_DAYS)) {
            return false;
        }
        ways.join(a, b, wire, days);
        return true;
    }

    public boolean rate(int town, int coin, int rate) {
        if (!isTown(town) || !isWithin(coin, 0, COINS - 1) || !isWithin(rate, 1, MOST_RATE)) {
            return false;
        }
        towns[town].coin = coin;
        towns[town].rate = rate;
        return true;
    }

    public int book(int leaves, int worth, int hand, int good) {
        if (!isWithin(leaves, 1, MOST_LEAVES) || !isWithin(worth, 1, MOST_WORTH)) {
            return NONE;
        }
        return addPaper(leaves, worth, hand, good);
    }

    public int credit(int limit, int hand, int good) {
        if (!isWithin(limit, 1, MOST_LIMIT)) {
            return NONE;
        }
        return addPaper(0, limit, hand, good);
    }

    public int advise(int paper, int town) {
        if (adviceCount >= MOST_ADVICES || paperAt(paper) == null || !isTown(town)) {
            return NONE;
        }
        advices[adviceCount] = new Advice(paper, town, letterDay(TOWN_OF_HOUSE, town));
        adviceCount++;
        return adviceCount - 1;
    }

    public boolean lose(int advice) {
        Advice it = adviceAt(advice);
        if (it == null || it.isLost || hasCome(it.comingDay, today)) {
            return false;
        }
        it.isLost = true;
        it.comingDay = NONE;
        return true;
    }

    public int stop(int paper, int leaf, int town) {
        Paper it = paperAt(paper);
        if (stopCount >= MOST_STOPS || it == null || !isTown(town)) {
            return NONE;
        }
        if (leaf != NONE && !it.hasLeaf(leaf)) {
            return NONE;
        }
        stops[stopCount] = new Stop(paper, leaf, ways.newsDays(town), today);
        stopCount++;
        return stopCount - 1;
    }

    public int feed(int a, int b, int c, int d, int e) {
        if (!tape.hasRoom(20)) {
            return NONE;
        }
        tape.append(a);
        tape.append(b);
        tape.append(c);
        tape.append(d);
        tape.append(e);
        return tape.length;
    }

    public int end(int n) {
        if (n < 0 || n > tape.length) {
            return NONE;
        }
        tape.length = n;
        return n;
    }

    public int text(int town) {
        if (!isTown(town)) {
            return NONE;
        }
        int fault = spareAgent.learn(tape);
        tape.length = 0;
        if (fault != 0) {
            return -2 - fault;
        }
        Agent earlier = towns[town].agent;
        towns[town].agent = spareAgent;
        spareAgent = earlier;
        return towns[town].agent.ruleCount;
    }

    public int law() {
        int fault = spareLaw.learn(tape);
        tape.length = 0;
        if (fault != 0) {
            return fault;
        }
        Law earlier = theLaw;
        theLaw = spareLaw;
        spareLaw = earlier;
        return 0;
    }

    public int show(int town, int paper, int leaf, int amount, int hand, boolean notes) {
        Paper itsPaper = paperAt(paper);
        if (shownCount >= MOST_SHOWN || !isTown(town) || itsPaper == null || !isHand(hand)) {
            return NONE;
        }
        if (!itsPaper.canBeShown(leaf, amount)) {
            return NONE;
        }
        int coins = itsPaper.isBook() ? itsPaper.worth : amount;
        Shown it = new Shown(town, paper, leaf, coins, hand, today);
        gatherFacts(it, itsPaper);
        it.rule = towns[town].agent.firstRuleFor(facts);
        it.deed = towns[town].agent.deedOf(it.rule);
        if (it.deed == PAID) {
            payOut(it, itsPaper, notes);
        }
        showings[shownCount] = it;
        shownCount++;
        return it.deed;
    }

    public int send(int town, int coins) {
        if (!isTown(town) || town == TOWN_OF_HOUSE || !isWithin(coins, 1, MOST_SENT_AT_ONCE)) {
            return NONE;
        }
        if (towns[town].sent > MOST_SENT - coins) {
            return NONE;
        }
        towns[town].sent += coins;
        return towns[town].sent;
    }

    public int shown(int k, int what) {
        Shown it = shownAt(k);
        if (it == null) {
            return NONE;
        }
        switch (what) {
            case 0: return it.town;
            case 1: return it.paper;
            case 2: return it.leaf;
            case 3: return it.amount;
            case 4: return it.deed;
            case 5: return it.rule;
            case 6: return it.coinsPaid;
            case 7: return it.day;
            case 8: return it.letterDay;
            default: return NONE;
        }
    }

    public int paper(int k, int what) {
        Paper it = paperAt(k);
        if (it == null) {
            return NONE;
        }
        switch (what) {
            case 0: return it.leaves;
            case 1: return it.worth;
            case 2: return it.day;
            case 3: return it.noted;
            case 4: return it.timesPaid;
            default: return NONE;
        }
    }

    public int comes(int kind, int k, int town) {
        if (!isTown(town)) {
            return NONE;
        }
        if (kind == 0) {
            Advice it = adviceAt(k);
            return it == null || it.town != town ? NONE : it.comingDay;
        }
        if (kind == 1) {
            Stop it = stopAt(k);
            return it == null ? NONE : it.comingDays[town];
        }
        return NONE;
    }

    public int settle(int known) {
        if (!isWithin(known, 0, LAST_DAY)) {
            return NONE;
        }
        latest.open();
        for (int k = 0; k < shownCount; k++) {
            Shown it = showings[k];
            if (it.deed == PAID && hasCome(it.letterDay, known)) {
                int kind = kindOf(k, it);
                latest.enter(k, it.town, kind, theLaw.houseShare(kind, it.coinsPaid));
            }
        }
        for (int t = 0; t < TOWNS; t++) {
            latest.dues[t] -= towns[t].sent;
        }
        latest.netAll(towns);
        return latest.size;
    }

    public int settled(int k, int what) {
        if (!latest.holds(k)) {
            return NONE;
        }
        if (what == 0) {
            return latest.kinds[k];
        }
        return what == 1 ? latest.shares[k] : NONE;
    }

    public long due(int town) {
        return isTown(town) ? latest.dues[town] : 0L;
    }

    public long netted(int k, int what) {
        if (k < 0 || k >= latest.giftCount) {
            return NONE;
        }
        switch (what) {
            case 0: return latest.givers[k];
            case 1: return latest.getters[k];
            case 2: return latest.gifts[k];
            case 3: return latest.giftCoins[k];
            default: return NONE;
        }
    }

    public int count(int what) {
        if (isWithin(what, 10, 9 + TOWNS)) {
            return towns[what - 10].agent.ruleCount;
        }
        if (isWithin(what, 30, 29 + KINDS)) {
            return theLaw.bearers[what - 30];
        }
        switch (what) {
            case 0: return today;
            case 1: return paperCount;
            case 2: return adviceCount;
            case 3: return stopCount;
            case 4: return shownCount;
            case 5: return tape.length;
            case 6: return latest.giftCount;
            case 34: return theLaw.forgedFrom;
            default: return NONE;
        }
    }

    private int addPaper(int leaves, int worth, int hand, int good) {
        if (paperCount >= MOST_PAPERS || !isHand(hand) || !isWithin(good, 1, MOST_GOOD_DAYS)) {
            return NONE;
        }
        papers[paperCount] = new Paper(leaves, worth, hand, good, today);
        paperCount++;
        return paperCount - 1;
    }

    private Paper paperAt(int k) {
        return k >= 0 && k < paperCount ? papers[k] : null;
    }

    private Advice adviceAt(int k) {
        return k >= 0 && k < adviceCount ? advices[k] : null;
    }

    private Stop stopAt(int k) {
        return k >= 0 && k < stopCount ? stops[k] : null;
    }

    private Shown shownAt(int k) {
        return k >= 0 && k < shownCount ? showings[k] : null;
    }

    /** The DAY on which a LETTER of today comes from one TOWN to another; NONE: never. */
    private int letterDay(int from, int to) {
        int days = ways.letterDays(from)[to];
        return days == NO_WAY ? NONE : today + days;
    }

    private void gatherFacts(Shown it, Paper itsPaper) {
        boolean advised = isAdvised(it);
        int age = it.day - itsPaper.day;
        facts[FACT_HAND] = advised ? unlikeness(it.hand, itsPaper.hand) : UNKNOWN_HAND;
        facts[FACT_ADVISED] = advised ? 1 : 0;
        facts[FACT_STOPPED] = isStopped(it) ? 1 : 0;
        facts[FACT_AGE] = age;
        facts[FACT_LATE] = age > itsPaper.goodDays ? 1 : 0;
        facts[FACT_AMOUNT] = it.amount;
        facts[FACT_LEFT] = itsPaper.worth - itsPaper.noted;
        facts[FACT_DAY] = it.day;
    }

    private void payOut(Shown it, Paper itsPaper, boolean notes) {
        it.coinsPaid = (int) ((long) it.amount * towns[it.town].rate / 1000L);
        it.letterDay = letterDay(it.town, TOWN_OF_HOUSE);
        itsPaper.timesPaid++;
        if (notes && !itsPaper.isBook()) {
            itsPaper.noted += it.amount;
        }
    }

    private boolean isAdvised(Shown it) {
        for (int k = 0; k < adviceCount; k++) {
            Advice advice = advices[k];
            if (advice.paper == it.paper && advice.town == it.town && hasCome(advice.comingDay, it.day)) {
                return true;
            }
        }
        return false;
    }

    /** Asked by the agent as it is shown, and by the HOUSE later: a STOP told on the same DAY may have come between. */
    private boolean isStopped(Shown it) {
        for (int k = 0; k < stopCount; k++) {
            if (stops[k].holdsAgainst(it)) {
                return true;
            }
        }
        return false;
    }

    private int kindOf(int k, Shown it) {
        Paper itsPaper = paperAt(it.paper);
        if (itsPaper == null) {
            return GOOD;
        }
        if (isStopped(it)) {
            return STOPPED;
        }
        if (unlikeness(it.hand, itsPaper.hand) >= theLaw.forgedFrom) {
            return FORGED;
        }
        if (itsPaper.isBook()) {
            return isSettledAhead(k, it) ? TWICE : GOOD;
        }
        return settledAhead(k, it) + it.amount > itsPaper.worth ? OVER : GOOD;
    }

    private boolean isSettledAhead(int k, Shown it) {
        for (int j = 0; j < k; j++) {
            Shown other = showings[j];
            if (latest.holds(j) && other.paper == it.paper && other.leaf == it.leaf) {
                return true;
            }
        }
        return false;
    }

    /** What was PAID on its CREDIT by those settled with lesser numbers, of whatever kind they are. */
    private int settledAhead(int k, Shown it) {
        int sum = 0;
        for (int j = 0; j < k; j++) {
            if (latest.holds(j) && showings[j].paper == it.paper) {
                sum += showings[j].amount;
            }
        }
        return sum;
    }

    private static boolean isWithin(int n, int least, int most) {
        return n >= least && n <= most;
    }

    private static boolean isTown(int town) {
        return isWithin(town, 0, TOWNS - 1);
    }

    private static boolean isHand(int hand) {
        return isWithin(hand, 0, MOST_HAND);
    }

    private static boolean hasCome(int comingDay, int day) {
        return comingDay != NONE && comingDay <= day;
    }

    private static int unlikeness(int one, int other) {
        int sum = 0;
        int a = one;
        int b = other;
        for (int k = 0; k < HAND_DIGITS; k++) {
            sum += Math.abs(a % 10 - b % 10);
            a /= 10;
            b /= 10;
        }
        return sum;
    }

    private static int faultAt(int place, int kind) {
        return 1 + 4 * place + kind;
    }

    /** The POSTS and WIRES, and how long it takes along them. */
    private static final class Ways {
        final int[] posts = new int[TOWNS * TOWNS];
        final int[] wires = new int[TOWNS * TOWNS];
        final int[] days = new int[TOWNS];
        final boolean[] isPassed = new boolean[TOWNS];

        Ways() {
            Arrays.fill(posts, NO_WAY);
            Arrays.fill(wires, NO_WAY);
        }

        void join(int a, int b, boolean wire, int howLong) {
            int[] kind = wire ? wires : posts;
            kind[a * TOWNS + b] = howLong;
            kind[b * TOWNS + a] = howLong;
        }

        /** The row is the same each time, so a caller that keeps the days copies them. */
        int[] letterDays(int from) {
            return quickest(from, false);
        }

        int[] newsDays(int from) {
            return quickest(from, true);
        }

        private int[] quickest(int from, boolean byWiresToo) {
            for (int t = 0; t < TOWNS; t++) {
                days[t] = t == from ? 0 : NO_WAY;
                isPassed[t] = false;
            }
            for (int round = 0; round < TOWNS; round++) {
                int near = nearestAhead();
                if (near == NONE) {
                    return days;
                }
                isPassed[near] = true;
                for (int t = 0; t < TOWNS; t++) {
                    days[t] = Math.min(days[t], days[near] + step(near, t, byWiresToo));
                }
            }
            return days;
        }

        private int nearestAhead() {
            int near = NONE;
            for (int t = 0; t < TOWNS; t++) {
                if (!isPassed[t] && days[t] < NO_WAY && (near == NONE || days[t] < days[near])) {
                    near = t;
                }
            }
            return near;
        }

        private int step(int a, int b, boolean byWiresToo) {
            int post = posts[a * TOWNS + b];
            return byWiresToo ? Math.min(post, wires[a * TOWNS + b]) : post;
        }
    }

    private static final class Town {
        int coin = 0;
        int rate = PLAIN_RATE;
        int sent = 0;
        Agent agent = new Agent();
    }

    /** A BOOK, or a CREDIT: that has no LEAVES, and its LIMIT as its worth. */
    private static final class Paper {
        final int leaves;
        final int worth;
        final int hand;
        final int goodDays;
        final int day;
        int noted = 0;
        int timesPaid = 0;

        Paper(int leaves, int worth, int hand, int goodDays, int day) {
            this.leaves = leaves;
            this.worth = worth;
            this.hand = hand;
            this.goodDays = goodDays;
            this.day = day;
        }

        boolean isBook() {
            return leaves > 0;
        }

        boolean hasLeaf(int leaf) {
            return leaf >= 0 && leaf < leaves;
        }

        boolean canBeShown(int leaf, int amount) {
            return isBook() ? hasLeaf(leaf) : leaf == NONE && isWithin(amount, 1, MOST_LIMIT);
        }
    }

    private static final class Advice {
        final int paper;
        final int town;
        int comingDay;
        boolean isLost = false;

        Advice(int paper, int town, int comingDay) {
            this.paper = paper;
            this.town = town;
            this.comingDay = comingDay;
        }
    }

    private static final class Stop {
        final int paper;
        final int leaf;
        final int[] comingDays = new int[TOWNS];

        Stop(int paper, int leaf, int[] newsDays, int day) {
            this.paper = paper;
            this.leaf = leaf;
            for (int t = 0; t < TOWNS; t++) {
                comingDays[t] = newsDays[t] == NO_WAY ? NONE : day + newsDays[t];
            }
        }

        boolean holdsAgainst(Shown it) {
            return paper == it.paper && (leaf == NONE || leaf == it.leaf) && hasCome(comingDays[it.town], it.day);
        }
    }

    private static final class Shown {
        final int town;
        final int paper;
        final int leaf;
        final int amount;
        final int hand;
        final int day;
        int rule = NONE;
        int deed = REFUSED;
        int coinsPaid = 0;
        int letterDay = NONE;

        Shown(int town, int paper, int leaf, int amount, int hand, int day) {
            this.town = town;
            this.paper = paper;
            this.leaf = leaf;
            this.amount = amount;
            this.hand = hand;
            this.day = day;
        }
    }

    /**
     * The TAPE, and a place up to which it has been read. Each reading goes over blanks first; one that
     * does not find what it looks for stays ahead of what stands there, which is the place of the FAULT.
     */
    private static final class Tape {
        final byte[] bytes = new byte[MOST_BYTES];
        int length = 0;
        int at = 0;

        boolean hasRoom(int more) {
            return length + more <= MOST_BYTES;
        }

        void append(int four) {
            for (int shift = 24; shift >= 0 && length < MOST_BYTES; shift -= 8) {
                bytes[length] = (byte) (four >> shift);
                length++;
            }
        }

        void rewind() {
            at = 0;
        }

        boolean isOver() {
            return nextPlace() >= length;
        }

        int nextPlace() {
            while (at < length && bytes[at] == ' ') {
                at++;
            }
            return at;
        }

        int faultHere(int kind) {
            return faultAt(nextPlace(), kind);
        }

        boolean takes(char sign) {
            if (nextPlace() >= length || bytes[at] != sign) {
                return false;
            }
            at++;
            return true;
        }

        /** Which WORD of a list (one blank between two) stands here; NONE: none of them. */
        int takeWord(String list) {
            int size = wordSize(nextPlace());
            int which = size == 0 ? NONE : indexInList(list, at, size);
            if (which != NONE) {
                at += size;
            }
            return which;
        }

        /** A NUMBER of so many digits at most; NONE without one, TOO_LONG of one with more. */
        int takeNumber(int mostDigits) {
            int behind = nextPlace();
            int number = 0;
            while (behind < length && isWithin(bytes[behind], '0', '9')) {
                if (behind - at >= mostDigits) {
                    return TOO_LONG;
                }
                number = number * 10 + bytes[behind] - '0';
                behind++;
            }
            if (behind == at) {
                return NONE;
            }
            at = behind;
            return number;
        }

        private int wordSize(int start) {
            int behind = start;
            while (behind < length && isWithin(bytes[behind], 'a', 'z')) {
                behind++;
            }
            return behind - start;
        }

        private int indexInList(String list, int start, int size) {
            int which = 0;
            int begin = 0;
            for (int i = 0; i <= list.length(); i++) {
                if (i == list.length() || list.charAt(i) == ' ') {
                    if (i - begin == size && isSame(list, begin, start, size)) {
                        return which;
                    }
                    which++;
                    begin = i + 1;
                }
            }
            return NONE;
        }

        private boolean isSame(String list, int begin, int start, int size) {
            for (int i = 0; i < size; i++) {
                if (list.charAt(begin + i) != bytes[start + i]) {
                    return false;
                }
            }
            return true;
        }
    }

    /** The RULES of a TOWN's text. */
    private static final class Agent {
        final int[] deeds = new int[MOST_RULES];
        final int[] condCounts = new int[MOST_RULES];
        final int[] names = new int[MOST_RULES * MOST_CONDS];
        final char[] signs = new char[MOST_RULES * MOST_CONDS];
        final int[] numbers = new int[MOST_RULES * MOST_CONDS];
        int ruleCount = 0;

        /** Reads the TAPE: 0, or its FAULT (what this agent holds is of no use then). */
        int learn(Tape tape) {
            ruleCount = 0;
            tape.rewind();
            if (tape.isOver()) {
                return 0;
            }
            // the last round is the 13th RULE's, which always has a FAULT
            for (int k = 0; k <= MOST_RULES; k++) {
                int fault = learnRule(tape, k);
                if (fault != 0) {
                    return fault;
                }
                ruleCount++;
                if (tape.isOver()) {
                    return 0;
                }
                if (!tape.takes(';')) {
                    return tape.faultHere(FAULT_WRONG);
                }
            }
            return tape.faultHere(FAULT_EXCESS);
        }

        private int learnRule(Tape tape, int rule) {
            int place = tape.nextPlace();
            int deed = tape.takeWord(DEEDS);
            if (deed == NONE) {
                return faultAt(place, FAULT_WRONG);
            }
            if (rule >= MOST_RULES) {
                return faultAt(place, FAULT_EXCESS);
            }
            deeds[rule] = deed;
            condCounts[rule] = 0;
            boolean goesOn = tape.takeWord("if") != NONE;
            for (int c = 0; goesOn && c <= MOST_CONDS; c++) {
                int fault = learnCond(tape, rule, c);
                if (fault != 0) {
                    return fault;
                }
                condCounts[rule]++;
                goesOn = tape.takeWord("and") != NONE;
            }
            return 0;
        }

        private int learnCond(Tape tape, int rule, int cond) {
            int place = tape.nextPlace();
            int name = tape.takeWord(NAMES);
            if (name == NONE) {
                return faultAt(place, FAULT_WRONG);
            }
            if (cond >= MOST_CONDS) {
                return faultAt(place, FAULT_EXCESS);
            }
            char sign = takeSign(tape);
            if (sign == ' ') {
                return tape.faultHere(FAULT_WRONG);
            }
            int number = tape.takeNumber(RULE_DIGITS);
            if (number < 0) {
                return tape.faultHere(number == TOO_LONG ? FAULT_LONG_NUMBER : FAULT_WRONG);
            }
            names[rule * MOST_CONDS + cond] = name;
            signs[rule * MOST_CONDS + cond] = sign;
            numbers[rule * MOST_CONDS + cond] = number;
            return 0;
        }

        private static char takeSign(Tape tape) {
            if (tape.takes('<')) {
                return '<';
            }
            if (tape.takes('>')) {
                return '>';
            }
            return tape.takes('=') ? '=' : ' ';
        }

        int firstRuleFor(int[] facts) {
            for (int k = 0; k < ruleCount; k++) {
                if (isMet(k, facts)) {
                    return k;
                }
            }
            return NONE;
        }

        int deedOf(int rule) {
            return rule >= 0 && rule < ruleCount ? deeds[rule] : REFUSED;
        }

        private boolean isMet(int rule, int[] facts) {
            int first = rule * MOST_CONDS;
            for (int k = first; k < first + condCounts[rule]; k++) {
                if (!isSo(facts[names[k]], signs[k], numbers[k])) {
                    return false;
                }
            }
            return true;
        }

        private static boolean isSo(int fact, char sign, int number) {
            if (sign == '<') {
                return fact < number;
            }
            return sign == '>' ? fact > number : fact == number;
        }
    }

    /** Who bears each kind, and from how UNLIKE on a HAND is forged. */
    private static final class Law {
        final int[] bearers = new int[KINDS];
        int forgedFrom;
        int told;

        Law() {
            forget();
        }

        private void forget() {
            bearers[STOPPED - 1] = BY_TOWN;
            bearers[FORGED - 1] = BY_TOWN;
            bearers[TWICE - 1] = BY_HOUSE;
            bearers[OVER - 1] = BY_HALF;
            forgedFrom = PLAIN_FORGED_FROM;
            told = 0;
        }

        /** Reads the TAPE: 0, or its FAULT (what this law holds is of no use then). */
        int learn(Tape tape) {
            forget();
            if (tape.length > MOST_LAW_BYTES) {
                return faultAt(MOST_LAW_BYTES, FAULT_WRONG);
            }
            tape.rewind();
            if (tape.isOver()) {
                return 0;
            }
            // each clause stands once at most, so the last round always has a FAULT
            for (int k = 0; k <= KINDS + 1; k++) {
                int fault = learnClause(tape);
                if (fault != 0) {
                    return fault;
                }
                if (tape.isOver()) {
                    return 0;
                }
                if (!tape.takes(';')) {
                    return tape.faultHere(FAULT_WRONG);
                }
            }
            return tape.faultHere(FAULT_EXCESS);
        }

        private int learnClause(Tape tape) {
            int place = tape.nextPlace();
            int clause = tape.takeWord(CLAUSES);
            if (clause == NONE) {
                return faultAt(place, FAULT_WRONG);
            }
            if ((told & 1 << clause) != 0) {
                return faultAt(place, FAULT_EXCESS);
            }
            told |= 1 << clause;
            return clause == CLAUSE_HAND ? learnHand(tape) : learnBearer(tape, clause);
        }

        private int learnHand(Tape tape) {
            int number = tape.takeNumber(LAW_DIGITS);
            if (number < 0) {
                return tape.faultHere(number == TOO_LONG ? FAULT_LONG_NUMBER : FAULT_WRONG);
            }
            forgedFrom = number;
            return 0;
        }

        private int learnBearer(Tape tape, int clause) {
            int bearer = tape.takeWord(BEARERS);
            if (bearer == NONE) {
                return tape.faultHere(FAULT_WRONG);
            }
            bearers[clause] = bearer;
            return 0;
        }

        int houseShare(int kind, int coins) {
            int bearer = kind == GOOD ? BY_HOUSE : bearers[kind - 1];
            if (bearer == BY_HALF) {
                return coins / 2;
            }
            return bearer == BY_HOUSE ? coins : 0;
        }
    }

    /** What the latest settlement answers; later calls change nothing of it. */
    private static final class Settlement {
        final int[] kinds = new int[MOST_SHOWN];
        final int[] shares = new int[MOST_SHOWN];
        final long[] dues = new long[TOWNS];
        final long[] rest = new long[TOWNS];
        // each gift leaves one TOWN more with nothing, so there are never more gifts than TOWNS
        final int[] givers = new int[TOWNS];
        final int[] getters = new int[TOWNS];
        final long[] gifts = new long[TOWNS];
        final int[] giftCoins = new int[TOWNS];
        int giftCount = 0;
        int size = 0;

        Settlement() {
            Arrays.fill(kinds, NONE);
        }

        void open() {
            Arrays.fill(kinds, NONE);
            Arrays.fill(dues, 0L);
            giftCount = 0;
            size = 0;
        }

        boolean holds(int k) {
            return k >= 0 && k < MOST_SHOWN && kinds[k] != NONE;
        }

        void enter(int k, int town, int kind, int share) {
            kinds[k] = kind;
            shares[k] = share;
            dues[town] += share;
            size++;
        }

        void netAll(Town[] towns) {
            System.arraycopy(dues, 0, rest, 0, TOWNS);
            for (int coin = 0; coin < COINS; coin++) {
                netAmongTowns(towns, coin);
                netWithHouse(towns, coin);
            }
        }

        private void netAmongTowns(Town[] towns, int coin) {
            for (int giver = 0; giver < TOWNS; giver++) {
                for (int getter = 0; getter < TOWNS; getter++) {
                    boolean ofCoin = towns[giver].coin == coin && towns[getter].coin == coin;
                    if (ofCoin && rest[giver] < 0 && rest[getter] > 0) {
                        long much = Math.min(-rest[giver], rest[getter]);
                        rest[giver] += much;
                        rest[getter] -= much;
                        addGift(giver, getter, much, coin);
                    }
                }
            }
        }

        private void netWithHouse(Town[] towns, int coin) {
            for (int t = 0; t < TOWNS; t++) {
                if (towns[t].coin == coin && rest[t] > 0) {
                    addGift(HOUSE, t, rest[t], coin);
                }
                if (towns[t].coin == coin && rest[t] < 0) {
                    addGift(t, HOUSE, -rest[t], coin);
                }
            }
        }

        private void addGift(int giver, int getter, long much, int coin) {
            if (giftCount >= TOWNS) {
                return;
            }
            givers[giftCount] = giver;
            getters[giftCount] = getter;
            gifts[giftCount] = much;
            giftCoins[giftCount] = coin;
            giftCount++;
        }
    }
}
