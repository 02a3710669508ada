/** Votes and auctions by height; ../shared/DOC.md holds the promises that this class keeps. */
public final class VoteAuctions {
    private static final int NO_SUCH = -1;
    private static final int OUT_OF_BOUNDS = -2;
    private static final int WRONG_STATE = -3;
    private static final int NO_ROOM = -4;

    private static final int MOST_ACCOUNTS = 8;
    private static final int MOST_QUESTIONS = 6;
    private static final int MOST_AUCTIONS = 6;
    private static final int LEAST_CHOICES = 2;
    private static final int MOST_CHOICES = 4;
    private static final int MOST_UNITS = 20;

    private static final int MOST_WEIGHT = 1000;
    private static final int MOST_FIRST_FUNDS = 1000000;
    private static final int MOST_ADDED_FUNDS = 100000;
    private static final int MOST_CALL_SUM = 100000;
    private static final int MOST_PRICE = 1000000;
    private static final int MOST_LEAST = 10000;
    private static final int MOST_STEP = 1000;
    private static final int MOST_HEIGHTS = 50;
    private static final int MOST_OPENING = 20;
    private static final int UNSEALING_HEIGHTS = 5;
    private static final int PERCENT = 100;

    private static final int NOBODY = -1;
    private static final int NO_VOTE = -1;

    private static final int ONE_CHOICE = 0;
    private static final int CHOICE_SET = 1;
    private static final int RANKS = 2;
    private static final int STRENGTHS = 3;

    private static final int RANK_BITS = 3;
    private static final int RANK_MASK = 7;
    private static final int STRENGTH_BITS = 5;
    private static final int STRENGTH_MASK = 31;

    private static final int OPEN = 0;
    private static final int SEALED_OWN_PRICE = 1;
    private static final int SEALED_NEXT_PRICE = 2;
    private static final int FALLING = 3;
    private static final int MANY_UNITS = 4;

    private static final long MARK_FIRST = 0x9E3779B97F4A7C15L;
    private static final long MARK_SECOND = 0xBF58476D1CE4E5B9L;

    private int height;
    private long pot;

    private int accountCount;
    private final int[] weights;
    private final long[] funds;
    private final long[] asides;
    private final int[] speakers;

    private int questionCount;
    private final Question[] questions;
    private int auctionCount;
    private final Auction[] auctions;

    // Rows of the last counting, kept here so that counting makes no objects.
    private final int[] voices;
    private final int[] counts;
    private final int[] fell;
    private int falls;

    public VoteAuctions() {
        weights = new int[MOST_ACCOUNTS];
        funds = new long[MOST_ACCOUNTS];
        asides = new long[MOST_ACCOUNTS];
        speakers = new int[MOST_ACCOUNTS];
        for (int i = 0; i < MOST_ACCOUNTS; i++) {
            speakers[i] = NOBODY;
        }
        questions = new Question[MOST_QUESTIONS];
        auctions = new Auction[MOST_AUCTIONS];
        voices = new int[MOST_ACCOUNTS];
        counts = new int[MOST_CHOICES];
        fell = new int[MOST_CHOICES];
    }

    public int account(int weight, int funds) {
        if (isOutside(weight, 0, MOST_WEIGHT) || isOutside(funds, 0, MOST_FIRST_FUNDS)) {
            return OUT_OF_BOUNDS;
        }
        if (accountCount >= MOST_ACCOUNTS) {
            return NO_ROOM;
        }
        int number = accountCount;
        weights[number] = weight;
        this.funds[number] = funds;
        accountCount++;
        return number;
    }

    public int weigh(int account, int weight) {
        if (isNoAccount(account)) {
            return NO_SUCH;
        }
        if (isOutside(weight, 0, MOST_WEIGHT)) {
            return OUT_OF_BOUNDS;
        }
        int before = weights[account];
        weights[account] = weight;
        return before;
    }

    public int fund(int account, int amount) {
        if (isNoAccount(account)) {
            return NO_SUCH;
        }
        if (isOutside(amount, 0, MOST_ADDED_FUNDS)) {
            return OUT_OF_BOUNDS;
        }
        funds[account] += amount;
        return 1;
    }

    public int speak(int account, int other) {
        if (isNoAccount(account) || isNoAccount(other)) {
            return NO_SUCH;
        }
        int before = speakers[account];
        speakers[account] = other == account ? NOBODY : other;
        return before == NOBODY ? account : before;
    }

    public long holds(int account, int what) {
        if (isNoAccount(account)) {
            return NO_SUCH;
        }
        switch (what) {
            case 0:
                return weights[account];
            case 1:
                return funds[account];
            case 2:
                return asides[account];
            default:
                return OUT_OF_BOUNDS;
        }
    }

    public long pot() {
        return pot;
    }

    public int tick(int n) {
        if (isOutside(n, 0, MOST_HEIGHTS)) {
            return OUT_OF_BOUNDS;
        }
        for (int i = 0; i < n; i++) {
            height++;
            endQuestions();
            endAuctions();
        }
        return height;
    }

    public long mark(int x, int y, int z) {
        long t = x * MARK_FIRST + y;
        t = (t ^ (t >>> 31)) * MARK_SECOND + z;
        return t ^ (t >>> 29);
    }

    // ---- questions

    public int question(int kind, int choices, int shut, int more, int quorum) {
        if (isOutside(kind, ONE_CHOICE, STRENGTHS)
                || isOutside(choices, LEAST_CHOICES, MOST_CHOICES)
                || isOutside(shut, 1, MOST_HEIGHTS)
                || isOutside(more, 0, MOST_OPENING)
                || isOutside(quorum, 0, PERCENT)) {
            return OUT_OF_BOUNDS;
        }
        if (questionCount >= MOST_QUESTIONS) {
            return NO_ROOM;
        }
        int number = questionCount;
        Question asked = new Question(kind, choices, height + shut, height + shut + more, quorum);
        System.arraycopy(weights, 0, asked.weights, 0, MOST_ACCOUNTS);
        questions[number] = asked;
        questionCount++;
        return number;
    }

    public int call(int question, int account, int sum, int lock) {
        Question q = questionAt(question);
        if (q == null || isNoAccount(account)) {
            return NO_SUCH;
        }
        if (isOutside(sum, 0, MOST_CALL_SUM) || isOutside(lock, 0, MOST_HEIGHTS)) {
            return OUT_OF_BOUNDS;
        }
        if (height >= q.shut) {
            return WRONG_STATE;
        }
        q.callAccount = account;
        q.callSum = sum;
        q.callHeight = q.end + lock;
        return 1;
    }

    public int vote(int question, int account, int v) {
        Question q = questionAt(question);
        if (q == null || isNoAccount(account)) {
            return NO_SUCH;
        }
        if (v != NO_VOTE && !isVote(q, account, v)) {
            return OUT_OF_BOUNDS;
        }
        if (height >= q.shut || q.isHidden()) {
            return WRONG_STATE;
        }
        q.votes[account] = v;
        return 1;
    }

    public int hide(int question, int account, long mark) {
        Question q = questionAt(question);
        if (q == null || isNoAccount(account)) {
            return NO_SUCH;
        }
        if (height >= q.shut || !q.isHidden()) {
            return WRONG_STATE;
        }
        q.marked[account] = true;
        q.marks[account] = mark;
        return 1;
    }

    public int reveal(int question, int account, int v, int salt) {
        Question q = questionAt(question);
        if (q == null || isNoAccount(account)) {
            return NO_SUCH;
        }
        if (!isVote(q, account, v)) {
            return OUT_OF_BOUNDS;
        }
        if (!q.isHidden() || height < q.shut || height >= q.end) {
            return WRONG_STATE;
        }
        if (q.votes[account] != NO_VOTE || !q.marked[account]
                || q.marks[account] != mark(account, v, salt)) {
            return WRONG_STATE;
        }
        q.votes[account] = v;
        return 1;
    }

    public int count(int question, int choice) {
        Question q = questionAt(question);
        if (q == null || isOutside(choice, 0, q.choices - 1)) {
            return NO_SUCH;
        }
        countVotes(q);
        return counts[choice];
    }

    public int fallen(int question, int k) {
        Question q = questionAt(question);
        if (q == null) {
            return NO_SUCH;
        }
        if (q.kind != RANKS) {
            return WRONG_STATE;
        }
        countVotes(q);
        return isOutside(k, 0, falls - 1) ? NO_SUCH : fell[k];
    }

    public int winner(int question) {
        Question q = questionAt(question);
        if (q == null) {
            return NO_SUCH;
        }
        countVotes(q);
        int best = mostCounted(q);
        return best == NOBODY ? WRONG_STATE : best;
    }

    public int passed(int question) {
        Question q = questionAt(question);
        if (q == null) {
            return NO_SUCH;
        }
        if (height < q.end) {
            return WRONG_STATE;
        }
        return isPassed(q) ? 1 : 0;
    }

    public int run(int question) {
        Question q = questionAt(question);
        if (q == null) {
            return NO_SUCH;
        }
        if (isNoAccount(q.callAccount) || q.callRun || height < q.callHeight
                || pot < q.callSum || !isPassed(q)) {
            return WRONG_STATE;
        }
        q.callRun = true;
        pot -= q.callSum;
        funds[q.callAccount] += q.callSum;
        return 1;
    }

    // ---- auctions

    public int auction(int kind, int units, int least, int step, int heights) {
        if (isOutside(kind, OPEN, MANY_UNITS)
                || isOutside(units, 1, kind == MANY_UNITS ? MOST_UNITS : 1)
                || isOutside(least, 1, MOST_LEAST)
                || isOutside(step, 0, MOST_STEP)
                || isOutside(heights, 1, MOST_HEIGHTS)) {
            return OUT_OF_BOUNDS;
        }
        if (auctionCount >= MOST_AUCTIONS) {
            return NO_ROOM;
        }
        int number = auctionCount;
        boolean opensLater = kind == SEALED_OWN_PRICE || kind == SEALED_NEXT_PRICE;
        int shut = height + heights;
        int end = opensLater ? shut + UNSEALING_HEIGHTS : shut;
        auctions[number] = new Auction(kind, units, least, step, shut, end);
        auctionCount++;
        return number;
    }

    public int bid(int auction, int account, int units, int price) {
        Auction a = auctionAt(auction);
        if (a == null || isNoAccount(account)) {
            return NO_SUCH;
        }
        if (isOutside(units, 1, a.units) || isOutside(price, a.least, MOST_PRICE)) {
            return OUT_OF_BOUNDS;
        }
        if ((a.kind != OPEN && a.kind != MANY_UNITS) || height >= a.end
                || isBelowStep(a, price)
                || funds[account] + a.costOf(account) < (long) units * price) {
            return WRONG_STATE;
        }
        if (a.kind == OPEN) {
            dropBid(a, a.leader);
            a.leader = account;
            a.knownPrice = price;
        }
        dropBid(a, account);
        a.tell(account);
        a.wants[account] = units;
        a.prices[account] = price;
        setAside(account, a.costOf(account));
        return 1;
    }

    public int seal(int auction, int account, long mark) {
        Auction a = auctionAt(auction);
        if (a == null || isNoAccount(account)) {
            return NO_SUCH;
        }
        boolean first = a.told[account] == 0;
        if (!a.isSealed() || height >= a.shut || (first && funds[account] < a.least)) {
            return WRONG_STATE;
        }
        if (first) {
            setAside(account, a.least);
        }
        a.tell(account);
        a.marks[account] = mark;
        return 1;
    }

    public int unseal(int auction, int account, int price, int salt) {
        Auction a = auctionAt(auction);
        if (a == null || isNoAccount(account)) {
            return NO_SUCH;
        }
        if (isOutside(price, a.least, MOST_PRICE)) {
            return OUT_OF_BOUNDS;
        }
        if (!a.isSealed() || height < a.shut || height >= a.end) {
            return WRONG_STATE;
        }
        if (a.told[account] == 0 || a.prices[account] != 0
                || a.marks[account] != mark(account, price, salt)
                || funds[account] + a.least < price) {
            return WRONG_STATE;
        }
        giveBack(account, a.least);
        setAside(account, price);
        a.wants[account] = 1;
        a.prices[account] = price;
        return 1;
    }

    public int take(int auction, int account) {
        Auction a = auctionAt(auction);
        if (a == null || isNoAccount(account)) {
            return NO_SUCH;
        }
        if (a.kind != FALLING || a.knownPrice != 0 || height >= a.end) {
            return WRONG_STATE;
        }
        int cost = fallingPrice(a);
        if (funds[account] < cost) {
            return WRONG_STATE;
        }
        setAside(account, cost);
        payAside(account, cost);
        a.won[account] = 1;
        a.knownPrice = cost;
        return cost;
    }

    public int price(int auction) {
        Auction a = auctionAt(auction);
        if (a == null) {
            return NO_SUCH;
        }
        if (a.knownPrice != 0) {
            return a.knownPrice;
        }
        return a.kind == FALLING && height < a.end ? fallingPrice(a) : WRONG_STATE;
    }

    public int won(int auction, int account) {
        Auction a = auctionAt(auction);
        if (a == null || isNoAccount(account)) {
            return NO_SUCH;
        }
        return a.won[account];
    }

    // ---- what is there

    private static boolean isOutside(int value, int low, int high) {
        return value < low || value > high;
    }

    private boolean isNoAccount(int account) {
        return account < 0 || account >= accountCount || account >= MOST_ACCOUNTS;
    }

    private Question questionAt(int number) {
        return isOutside(number, 0, MOST_QUESTIONS - 1) ? null : questions[number];
    }

    private Auction auctionAt(int number) {
        return isOutside(number, 0, MOST_AUCTIONS - 1) ? null : auctions[number];
    }

    // ---- funds: each sum leaves one place for one other, so that none is lost or made

    private void setAside(int account, long sum) {
        funds[account] -= sum;
        asides[account] += sum;
    }

    private void giveBack(int account, long sum) {
        asides[account] -= sum;
        funds[account] += sum;
    }

    private void payAside(int account, long sum) {
        asides[account] -= sum;
        pot += sum;
    }

    // ---- which numbers are votes

    private static boolean isVote(Question q, int account, int v) {
        switch (q.kind) {
            case ONE_CHOICE:
                return !isOutside(v, 0, q.choices - 1);
            case CHOICE_SET:
                return !isOutside(v, 1, (1 << q.choices) - 1);
            case RANKS:
                return isRanks(v, q.choices);
            default:
                return isStrengths(v, q.choices, q.weights[account]);
        }
    }

    private static boolean isRanks(int v, int choices) {
        int seen = 0;
        int rest = v;
        for (int i = 0; i < choices && rest > 0; i++) {
            int choice = (rest & RANK_MASK) - 1;
            if (isOutside(choice, 0, choices - 1) || hasChoice(seen, choice)) {
                return false;
            }
            seen |= 1 << choice;
            rest >>= RANK_BITS;
        }
        return v > 0 && rest == 0;
    }

    private static boolean isStrengths(int v, int choices, int weight) {
        if (isOutside(v, 0, (1 << (STRENGTH_BITS * choices)) - 1)) {
            return false;
        }
        int squares = 0;
        for (int choice = 0; choice < choices; choice++) {
            int strength = strengthOf(v, choice);
            squares += strength * strength;
        }
        return squares <= weight;
    }

    private static int strengthOf(int v, int choice) {
        return (v >> (STRENGTH_BITS * choice)) & STRENGTH_MASK;
    }

    private static boolean hasChoice(int set, int choice) {
        return ((set >> choice) & 1) != 0;
    }

    private static int firstOfRanks(int v, int choices, int in) {
        int rest = v;
        for (int i = 0; i < choices && rest > 0; i++) {
            int choice = (rest & RANK_MASK) - 1;
            if (choice >= 0 && hasChoice(in, choice)) {
                return choice;
            }
            rest >>= RANK_BITS;
        }
        return NOBODY;
    }

    // ---- counting

    private void countVotes(Question q) {
        findVoices(q);
        int in = (1 << q.choices) - 1;
        countRound(q, in);
        falls = 0;
        // One falls each time: after one less than there are choices, one alone is in.
        int mostFalls = q.kind == RANKS ? q.choices - 1 : 0;
        for (int round = 0; round < mostFalls && !hasMoreThanHalf(q); round++) {
            int least = leastCounted(q, in);
            fell[round] = least;
            falls = round + 1;
            in &= ~(1 << least);
            countRound(q, in);
        }
    }

    private void findVoices(Question q) {
        for (int account = 0; account < MOST_ACCOUNTS; account++) {
            voices[account] = voiceOf(q, account);
        }
    }

    private int voiceOf(Question q, int account) {
        int speaker = account;
        // A row of speakers that has not ended after so many steps goes round.
        for (int step = 0; step < MOST_ACCOUNTS; step++) {
            if (isOutside(speaker, 0, MOST_ACCOUNTS - 1)) {
                return NOBODY;
            }
            if (q.votes[speaker] != NO_VOTE) {
                return speaker;
            }
            if (q.kind == STRENGTHS) {
                return NOBODY;
            }
            speaker = height >= q.end ? q.speakersAtEnd[speaker] : speakers[speaker];
        }
        return NOBODY;
    }

    private void countRound(Question q, int in) {
        for (int choice = 0; choice < q.choices; choice++) {
            int sum = 0;
            for (int account = 0; account < MOST_ACCOUNTS; account++) {
                int voice = voices[account];
                if (voice != NOBODY) {
                    sum += shareOf(q, q.votes[voice], q.weights[account], choice, in);
                }
            }
            counts[choice] = sum;
        }
    }

    private static int shareOf(Question q, int v, int weight, int choice, int in) {
        switch (q.kind) {
            case ONE_CHOICE:
                return v == choice ? weight : 0;
            case CHOICE_SET:
                return hasChoice(v, choice) ? weight : 0;
            case RANKS:
                return firstOfRanks(v, q.choices, in) == choice ? weight : 0;
            default:
                return strengthOf(v, choice);
        }
    }

    private boolean hasMoreThanHalf(Question q) {
        int most = 0;
        int all = 0;
        for (int choice = 0; choice < q.choices; choice++) {
            most = Math.max(most, counts[choice]);
            all += counts[choice];
        }
        return 2 * most > all;
    }

    private int leastCounted(Question q, int in) {
        int least = NOBODY;
        for (int choice = 0; choice < q.choices; choice++) {
            if (hasChoice(in, choice) && (least == NOBODY || counts[choice] <= counts[least])) {
                least = choice;
            }
        }
        return least;
    }

    // By ranks all have 0 in the last round only if all had 0 in the first one,
    // since the one that falls never has more than those that stay.
    private int mostCounted(Question q) {
        int best = NOBODY;
        int most = 0;
        for (int choice = 0; choice < q.choices; choice++) {
            if (counts[choice] > most) {
                best = choice;
                most = counts[choice];
            }
        }
        return best;
    }

    private boolean isPassed(Question q) {
        if (height < q.end) {
            return false;
        }
        countVotes(q);
        int given = 0;
        int all = 0;
        for (int account = 0; account < MOST_ACCOUNTS; account++) {
            all += q.weights[account];
            if (voices[account] != NOBODY) {
                given += q.weights[account];
            }
        }
        return mostCounted(q) == 0 && given * PERCENT >= q.quorum * all;
    }

    private void endQuestions() {
        for (int i = 0; i < MOST_QUESTIONS; i++) {
            Question q = questions[i];
            if (q != null && q.end == height) {
                System.arraycopy(speakers, 0, q.speakersAtEnd, 0, MOST_ACCOUNTS);
            }
        }
    }

    // ---- bids and their end

    private static boolean isBelowStep(Auction a, int price) {
        return a.kind == OPEN && a.leader != NOBODY && price < a.knownPrice + a.step;
    }

    private int fallingPrice(Auction a) {
        return a.least + a.step * (a.end - height);
    }

    private void dropBid(Auction a, int account) {
        if (isNoAccount(account)) {
            return;
        }
        giveBack(account, a.costOf(account));
        a.wants[account] = 0;
        a.prices[account] = 0;
    }

    private void endAuctions() {
        for (int i = 0; i < MOST_AUCTIONS; i++) {
            Auction a = auctions[i];
            if (a != null && a.end == height) {
                endAuction(a);
            }
        }
    }

    private void endAuction(Auction a) {
        if (a.kind == FALLING) {
            return;
        }
        if (a.isSealed()) {
            payUnopened(a);
        }
        shareUnits(a);
        if (a.kind == SEALED_NEXT_PRICE && a.knownPrice != 0) {
            // The winner is passed over now, so the next one is the best of the others.
            int next = a.bestWithout();
            a.knownPrice = next == NOBODY ? a.least : a.prices[next];
        }
        settleBids(a);
    }

    private void payUnopened(Auction a) {
        for (int account = 0; account < MOST_ACCOUNTS; account++) {
            if (a.told[account] != 0 && a.prices[account] == 0) {
                payAside(account, a.least);
            }
        }
    }

    private static void shareUnits(Auction a) {
        int left = a.units;
        for (int turn = 0; turn < MOST_ACCOUNTS && left > 0; turn++) {
            int best = a.bestWithout();
            if (best == NOBODY) {
                return;
            }
            int got = Math.min(left, a.wants[best]);
            a.won[best] = got;
            a.knownPrice = a.prices[best];
            left -= got;
        }
    }

    private void settleBids(Auction a) {
        for (int account = 0; account < MOST_ACCOUNTS; account++) {
            long cost = a.costOf(account);
            long paid = (long) a.won[account] * a.knownPrice;
            payAside(account, paid);
            giveBack(account, cost - paid);
        }
    }

    private static final class Question {
        private final int kind;
        private final int choices;
        private final int shut;
        private final int end;
        private final int quorum;
        private final int[] weights;
        private final int[] votes;
        private final boolean[] marked;
        private final long[] marks;
        private final int[] speakersAtEnd;
        private int callAccount;
        private int callSum;
        private int callHeight;
        private boolean callRun;

        private Question(int kind, int choices, int shut, int end, int quorum) {
            this.kind = kind;
            this.choices = choices;
            this.shut = shut;
            this.end = end;
            this.quorum = quorum;
            weights = new int[MOST_ACCOUNTS];
            votes = new int[MOST_ACCOUNTS];
            marked = new boolean[MOST_ACCOUNTS];
            marks = new long[MOST_ACCOUNTS];
            speakersAtEnd = new int[MOST_ACCOUNTS];
            for (int i = 0; i < MOST_ACCOUNTS; i++) {
                votes[i] = NO_VOTE;
                speakersAtEnd[i] = NOBODY;
            }
            callAccount = NOBODY;
        }

        private boolean isHidden() {
            return end > shut;
        }
    }

    private static final class Auction {
        private final int kind;
        private final int units;
        private final int least;
        private final int step;
        private final int shut;
        private final int end;
        // By account: when its bid or mark was told (0: never), and its bid (0 units: none).
        private final int[] told;
        private final long[] marks;
        private final int[] wants;
        private final int[] prices;
        private final int[] won;
        private int tellings;
        // Of kind 0 alone: whose bid is the best so far.
        private int leader;
        // Of kind 0 the best so far, of others what was paid at last for a unit.
        // No price is below 1, so that 0 says that there is none.
        private int knownPrice;

        private Auction(int kind, int units, int least, int step, int shut, int end) {
            this.kind = kind;
            this.units = units;
            this.least = least;
            this.step = step;
            this.shut = shut;
            this.end = end;
            told = new int[MOST_ACCOUNTS];
            marks = new long[MOST_ACCOUNTS];
            wants = new int[MOST_ACCOUNTS];
            prices = new int[MOST_ACCOUNTS];
            won = new int[MOST_ACCOUNTS];
            leader = NOBODY;
        }

        private boolean isSealed() {
            return end > shut;
        }

        private void tell(int account) {
            tellings++;
            told[account] = tellings;
        }

        private long costOf(int account) {
            return (long) wants[account] * prices[account];
        }

        private int bestWithout() {
            int best = NOBODY;
            for (int i = 0; i < MOST_ACCOUNTS; i++) {
                if (wants[i] > 0 && won[i] == 0 && (best == NOBODY || isAhead(i, best))) {
                    best = i;
                }
            }
            return best;
        }

        private boolean isAhead(int one, int other) {
            return prices[one] > prices[other]
                    || (prices[one] == prices[other] && told[one] < told[other]);
        }
    }
}
