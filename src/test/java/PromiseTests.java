/** For each promise: ordinary inputs, the edges that the document names, wrong inputs. */
public final class PromiseTests {
    private static int wrong = 0;
    private static int promise = 0;

    private static void due(String what, long got, long want) {
        if (got != want) {
            wrong++;
            System.out.println("promise " + promise + ": " + what + " answered " + got + ", due is " + want);
        }
    }

    private static VoteAuctions withAccounts(int... weightsAndFunds) {
        VoteAuctions x = new VoteAuctions();
        for (int i = 0; i + 1 < weightsAndFunds.length; i += 2) {
            x.account(weightsAndFunds[i], weightsAndFunds[i + 1]);
        }
        return x;
    }

    private static void dueHolds(VoteAuctions x, int account, long funds, long aside) {
        due("funds of " + account, x.holds(account, 1), funds);
        due("set aside of " + account, x.holds(account, 2), aside);
    }

    private static void newObject() {
        promise = 1;
        VoteAuctions x = new VoteAuctions();
        due("tick(0)", x.tick(0), 0);
        due("pot()", x.pot(), 0);
        due("holds(0, 0)", x.holds(0, 0), -1);
        due("winner(0)", x.winner(0), -1);
        due("price(0)", x.price(0), -1);
    }

    private static void account() {
        promise = 2;
        VoteAuctions x = new VoteAuctions();
        due("account(-1, 0)", x.account(-1, 0), -2);
        due("account(1001, 0)", x.account(1001, 0), -2);
        due("account(0, -1)", x.account(0, -1), -2);
        due("account(0, 1000001)", x.account(0, 1000001), -2);
        due("account(0, 0)", x.account(0, 0), 0);
        due("account(1000, 1000000)", x.account(1000, 1000000), 1);
        due("holds(1, 0)", x.holds(1, 0), 1000);
        due("holds(1, 1)", x.holds(1, 1), 1000000);
        due("holds(1, 2)", x.holds(1, 2), 0);
        for (int i = 2; i < 8; i++) {
            due("account(1, 1)", x.account(1, 1), i);
        }
        due("a ninth account", x.account(1, 1), -4);
        due("a ninth account outside bounds", x.account(1001, 1), -2);
        due("holds(8, 0)", x.holds(8, 0), -1);
    }

    private static void weigh() {
        promise = 3;
        VoteAuctions x = withAccounts(5, 0);
        due("weigh(1, 5)", x.weigh(1, 5), -1);
        due("weigh(-1, 5)", x.weigh(-1, 5), -1);
        due("weigh(1, 1001)", x.weigh(1, 1001), -1);
        due("weigh(0, -1)", x.weigh(0, -1), -2);
        due("weigh(0, 1001)", x.weigh(0, 1001), -2);
        due("weigh(0, 1000)", x.weigh(0, 1000), 5);
        due("weigh(0, 0)", x.weigh(0, 0), 1000);
        due("holds(0, 0)", x.holds(0, 0), 0);
    }

    private static void fund() {
        promise = 4;
        VoteAuctions x = withAccounts(5, 1000000);
        due("fund(1, 5)", x.fund(1, 5), -1);
        due("fund(1, -1)", x.fund(1, -1), -1);
        due("fund(0, -1)", x.fund(0, -1), -2);
        due("fund(0, 100001)", x.fund(0, 100001), -2);
        due("fund(0, 0)", x.fund(0, 0), 1);
        due("fund(0, 100000)", x.fund(0, 100000), 1);
        due("holds(0, 1)", x.holds(0, 1), 1100000);
    }

    private static void speak() {
        promise = 5;
        VoteAuctions x = withAccounts(1, 0, 1, 0, 1, 0);
        due("speak(3, 0)", x.speak(3, 0), -1);
        due("speak(0, 3)", x.speak(0, 3), -1);
        due("speak(0, -1)", x.speak(0, -1), -1);
        due("speak(1, 2)", x.speak(1, 2), 1);
        due("speak(1, 0)", x.speak(1, 0), 2);
        due("speak(1, 1)", x.speak(1, 1), 0);
        due("speak(1, 1) again", x.speak(1, 1), 1);
        due("speak(1, 2) anew", x.speak(1, 2), 1);
        due("speak(1, 2) again", x.speak(1, 2), 2);
    }

    private static void holds() {
        promise = 6;
        VoteAuctions x = withAccounts(7, 90);
        x.auction(0, 1, 10, 0, 5);
        x.bid(0, 0, 1, 30);
        due("holds(0, 0)", x.holds(0, 0), 7);
        due("holds(0, 1)", x.holds(0, 1), 60);
        due("holds(0, 2)", x.holds(0, 2), 30);
        due("holds(0, 3)", x.holds(0, 3), -2);
        due("holds(0, -1)", x.holds(0, -1), -2);
        due("holds(1, 3)", x.holds(1, 3), -1);
        due("holds(-1, 0)", x.holds(-1, 0), -1);
        due("holds(MIN, 0)", x.holds(Integer.MIN_VALUE, 0), -1);
    }

    private static void pot() {
        promise = 7;
        VoteAuctions x = withAccounts(7, 90);
        x.auction(3, 1, 10, 2, 5);
        due("pot()", x.pot(), 0);
        x.take(0, 0);
        due("pot() after a take", x.pot(), 20);
    }

    private static void tick() {
        promise = 8;
        VoteAuctions x = withAccounts(7, 90, 7, 90);
        due("tick(-1)", x.tick(-1), -2);
        due("tick(51)", x.tick(51), -2);
        due("tick(0)", x.tick(0), 0);
        due("tick(50)", x.tick(50), 50);
        due("tick(1)", x.tick(1), 51);
        x.question(0, 2, 3, 0, 0);
        x.vote(0, 1, 1);
        x.speak(0, 1);
        x.auction(0, 1, 10, 0, 3);
        x.auction(0, 1, 10, 0, 4);
        x.bid(0, 0, 1, 30);
        x.bid(1, 1, 1, 40);
        due("tick(50) over ends", x.tick(50), 101);
        due("pot()", x.pot(), 70);
        x.speak(0, 0);
        due("count by speakers at the end", x.count(0, 1), 14);
    }

    private static void mark() {
        promise = 9;
        VoteAuctions x = new VoteAuctions();
        due("mark(0, 1, 7)", x.mark(0, 1, 7), -4658895298651300184L);
        due("mark(0, 0, 0)", x.mark(0, 0, 0), 0);
        due("mark(0, 0, 5)", x.mark(0, 0, 5), 5);
        due("mark(0, 0, -1)", x.mark(0, 0, -1), -1L ^ (-1L >>> 29));
        due("mark(0, 1, 0)", x.mark(0, 1, 0), 0xBF58476D1CE4E5B9L ^ (0xBF58476D1CE4E5B9L >>> 29));
        long t = -3L * 0x9E3779B97F4A7C15L - 4L;
        t = (t ^ (t >>> 31)) * 0xBF58476D1CE4E5B9L - 5L;
        due("mark(-3, -4, -5)", x.mark(-3, -4, -5), t ^ (t >>> 29));
    }

    private static void question() {
        promise = 10;
        VoteAuctions x = withAccounts(5, 0);
        int[][] bad = {{-1, 2, 1, 0, 0}, {4, 2, 1, 0, 0}, {0, 1, 1, 0, 0}, {0, 5, 1, 0, 0},
            {0, 2, 0, 0, 0}, {0, 2, 51, 0, 0}, {0, 2, 1, -1, 0}, {0, 2, 1, 21, 0},
            {0, 2, 1, 0, -1}, {0, 2, 1, 0, 101}};
        for (int[] b : bad) {
            due("question out of bounds", x.question(b[0], b[1], b[2], b[3], b[4]), -2);
        }
        due("question(3, 4, 50, 20, 100)", x.question(3, 4, 50, 20, 100), 0);
        due("question(0, 2, 1, 0, 0)", x.question(0, 2, 1, 0, 0), 1);
        x.weigh(0, 9);
        x.account(100, 0);
        due("vote(1, 0, 1)", x.vote(1, 0, 1), 1);
        due("vote(1, 1, 0)", x.vote(1, 1, 0), 1);
        due("weight as it was", x.count(1, 1), 5);
        due("weight of a later account", x.count(1, 0), 0);
        for (int i = 2; i < 6; i++) {
            due("question", x.question(0, 2, 1, 0, 0), i);
        }
        due("a seventh question", x.question(0, 2, 1, 0, 0), -4);
        due("a seventh question out of bounds", x.question(0, 2, 1, 0, 101), -2);
    }

    private static void call() {
        promise = 11;
        VoteAuctions x = withAccounts(5, 100, 0, 0);
        x.question(0, 2, 2, 0, 0);
        due("call of no question", x.call(1, 0, -1, 0), -1);
        due("call of no account", x.call(0, 2, -1, 0), -1);
        due("call, sum -1", x.call(0, 0, -1, 0), -2);
        due("call, sum 100001", x.call(0, 0, 100001, 0), -2);
        due("call, lock -1", x.call(0, 0, 0, -1), -2);
        due("call, lock 51", x.call(0, 0, 0, 51), -2);
        due("call, widest", x.call(0, 0, 100000, 50), 1);
        x.vote(0, 0, 0);
        x.tick(1);
        due("call in place of that", x.call(0, 1, 60, 0), 1);
        x.auction(3, 1, 60, 0, 5);
        x.take(0, 0);
        x.tick(1);
        due("call at shut", x.call(0, 0, 1, 0), -3);
        due("call at shut, sum -1", x.call(0, 0, -1, 0), -2);
        due("run(0)", x.run(0), 1);
        dueHolds(x, 0, 40, 0);
        dueHolds(x, 1, 60, 0);
    }

    private static void vote() {
        promise = 12;
        VoteAuctions x = withAccounts(50, 0, 0, 0);
        x.question(0, 3, 2, 0, 0);
        x.question(1, 3, 2, 0, 0);
        x.question(2, 3, 2, 0, 0);
        x.question(3, 3, 2, 0, 0);
        x.question(0, 3, 2, 1, 0);
        x.question(2, 4, 2, 0, 0);
        due("vote, no question", x.vote(6, 0, 9), -1);
        due("vote, no account", x.vote(0, 2, 9), -1);
        dueVotes(x, 0, new int[] {0, 2, -1}, new int[] {3, -2, Integer.MIN_VALUE});
        dueVotes(x, 1, new int[] {1, 7, -1}, new int[] {0, 8, -2});
        dueVotes(x, 2, new int[] {1, 2, 3, 1 + 8 * 3, 3 + 8 * 1 + 64 * 2, -1},
            new int[] {0, 4, 1 + 8 * 1, 8, 1 + 64 * 2, 1 + 8 * 4, 1 + 8 * 2 + 64 * 3 + 512 * 1, 7, -2});
        dueVotes(x, 3, new int[] {0, 7, 5 + 32 * 5, 5 * 32 + 5 * 1024, 7 + 32, -1},
            new int[] {8, 7 + 32 + 1024, 32768, 5 + 32 * 5 + 1024, -2, Integer.MAX_VALUE});
        dueVotes(x, 5, new int[] {4 + 8 * 3 + 64 * 2 + 512}, new int[] {5, 4 + 8 * 3 + 64 * 2 + 512 * 4,
            4 + 8 * 3 + 64 * 2 + 512 + 4096});
        due("strength above weight 0", x.vote(3, 1, 1), -2);
        due("no strength, weight 0", x.vote(3, 1, 0), 1);
        due("vote in a hidden one", x.vote(4, 0, 1), -3);
        due("no vote in a hidden one", x.vote(4, 0, -1), -3);
        due("none in a hidden one", x.vote(4, 0, 3), -2);
        x.vote(0, 0, 1);
        x.vote(0, 0, 2);
        due("the one before is gone", x.count(0, 1), 0);
        due("the later one counts", x.count(0, 2), 50);
        x.vote(0, 0, -1);
        due("none any more", x.count(0, 2), 0);
        due("taken back twice", x.vote(0, 0, -1), 1);
        x.tick(1);
        due("one below shut", x.vote(0, 0, 0), 1);
        x.tick(1);
        due("at shut", x.vote(0, 0, 1), -3);
        due("at shut, none any more", x.vote(0, 0, -1), -3);
        due("at shut, no vote", x.vote(0, 0, 3), -2);
        due("the vote stays", x.count(0, 0), 50);
    }

    private static void dueVotes(VoteAuctions x, int question, int[] good, int[] bad) {
        for (int v : good) {
            due("vote(" + question + ", 0, " + v + ")", x.vote(question, 0, v), 1);
        }
        for (int v : bad) {
            due("vote(" + question + ", 0, " + v + ")", x.vote(question, 0, v), -2);
        }
    }

    private static void hide() {
        promise = 13;
        VoteAuctions x = withAccounts(50, 0, 5, 0);
        x.question(0, 3, 2, 1, 0);
        x.question(0, 3, 2, 0, 0);
        due("hide, no question", x.hide(2, 0, 1), -1);
        due("hide, no account", x.hide(0, 2, 1), -1);
        due("hide in an open one", x.hide(1, 0, 1), -3);
        due("hide", x.hide(0, 0, x.mark(0, 1, 5)), 1);
        x.tick(1);
        due("hide in place", x.hide(0, 0, x.mark(0, 2, 5)), 1);
        x.tick(1);
        due("hide at shut", x.hide(0, 0, 3), -3);
        due("the mark before", x.reveal(0, 0, 1, 5), -3);
        due("the later mark", x.reveal(0, 0, 2, 5), 1);
    }

    private static void reveal() {
        promise = 14;
        VoteAuctions x = withAccounts(50, 0, 5, 0, 6, 0);
        x.question(0, 3, 2, 2, 0);
        x.question(0, 3, 1, 0, 0);
        x.hide(0, 0, x.mark(0, 1, 5));
        x.hide(0, 1, x.mark(1, 0, -9));
        due("reveal, no question", x.reveal(2, 0, 9, 1), -1);
        due("reveal, no account", x.reveal(0, 3, 9, 1), -1);
        due("reveal, no vote", x.reveal(0, 0, 3, 5), -2);
        due("reveal -1", x.reveal(0, 0, -1, 5), -2);
        due("reveal of an open one", x.reveal(1, 0, 1, 5), -3);
        due("reveal below shut", x.reveal(0, 0, 1, 5), -3);
        x.tick(2);
        due("before it is opened", x.count(0, 1), 0);
        due("another salt", x.reveal(0, 0, 1, 6), -3);
        due("another vote", x.reveal(0, 0, 2, 5), -3);
        due("no mark", x.reveal(0, 2, 1, 5), -3);
        due("opened", x.reveal(0, 0, 1, 5), 1);
        due("opened again", x.reveal(0, 0, 1, 5), -3);
        due("after it is opened", x.count(0, 1), 50);
        x.tick(1);
        due("opened one below end", x.reveal(0, 1, 0, -9), 1);
        x.tick(1);
        due("at end", x.count(0, 0), 5);

        VoteAuctions y = withAccounts(50, 0);
        y.question(0, 2, 1, 1, 0);
        y.hide(0, 0, y.mark(0, 0, 0));
        y.tick(2);
        due("opened at end", y.reveal(0, 0, 0, 0), -3);

        VoteAuctions z = withAccounts(3, 0);
        z.question(0, 2, 1, 1, 0);
        z.tick(1);
        due("mark 0 is not there by itself", z.reveal(0, 0, 0, 0), -3);
    }

    private static void count() {
        promise = 15;
        VoteAuctions x = withAccounts(1, 0, 2, 0, 4, 0, 8, 0);
        x.question(0, 3, 5, 0, 0);
        x.question(1, 3, 5, 0, 0);
        x.question(3, 3, 5, 0, 0);
        due("count, no question", x.count(3, 0), -1);
        due("count, choice 3", x.count(0, 3), -1);
        due("count, choice -1", x.count(0, -1), -1);
        x.speak(0, 1);
        x.speak(1, 2);
        x.speak(2, 0);
        due("a row that goes round", x.count(0, 0), 0);
        x.vote(0, 2, 1);
        due("two speakers away", x.count(0, 1), 7);
        x.vote(0, 1, 0);
        due("the nearest vote", x.count(0, 0), 3);
        due("the farther vote", x.count(0, 1), 4);
        x.vote(1, 2, 5);
        x.vote(1, 3, 6);
        due("sets, 0", x.count(1, 0), 7);
        due("sets, 1", x.count(1, 1), 8);
        due("sets, 2", x.count(1, 2), 15);
        x.vote(2, 3, 2 + 32 * 2);
        x.vote(2, 2, 32);
        due("strengths, 0", x.count(2, 0), 2);
        due("strengths, 1", x.count(2, 1), 3);
        due("strengths, 2", x.count(2, 2), 0);
        x.speak(2, 2);
        x.vote(0, 2, -1);
        x.vote(0, 1, -1);
        due("a row that ends", x.count(0, 1), 0);
        x.account(9, 0);
        x.speak(3, 4);
        x.vote(0, 4, 2);
        due("the vote of a later account", x.count(0, 2), 8);
    }

    private static void countOfLongRow() {
        promise = 15;
        VoteAuctions x = withAccounts(1, 0, 2, 0, 4, 0, 8, 0, 16, 0, 32, 0, 64, 0, 128, 0);
        x.question(0, 2, 5, 0, 0);
        for (int i = 0; i < 7; i++) {
            x.speak(i, i + 1);
        }
        x.vote(0, 7, 1);
        due("all eight in one row", x.count(0, 1), 255);
        x.tick(5);
        for (int i = 0; i < 7; i++) {
            x.speak(i, i);
        }
        due("speakers as they were", x.count(0, 1), 255);
    }

    private static void countOfRanks() {
        promise = 15;
        VoteAuctions x = withAccounts(4, 0, 3, 0, 2, 0, 5, 0);
        x.question(2, 4, 5, 0, 0);
        x.vote(0, 0, 1);
        x.vote(0, 1, 2 + 8 * 4);
        x.vote(0, 2, 3 + 8 * 2);
        x.vote(0, 3, 4);
        // 4 3 2 5: 2 falls; 4 5 - 5: 0 falls; - 5 - 5: 3 falls; 1 is alone in
        due("first fall", x.fallen(0, 0), 2);
        due("second fall", x.fallen(0, 1), 0);
        due("third fall", x.fallen(0, 2), 3);
        due("no fourth fall", x.fallen(0, 3), -1);
        due("last round, 0", x.count(0, 0), 0);
        due("last round, 1", x.count(0, 1), 5);
        due("last round, 2", x.count(0, 2), 0);
        due("last round, 3", x.count(0, 3), 0);
        x.vote(0, 3, 4 + 8 * 1);
        // 4 3 2 5: 2 falls; 4 5 - 5: 0 falls; - 5 - 5: 3 falls, and 0 is out already
        due("a second rank that is out", x.count(0, 1), 5);
        x.speak(0, 3);
        x.vote(0, 0, -1);
        // - 3 2 9: 3 has more than half
        due("ranks have speakers", x.count(0, 3), 9);
        due("none fell", x.fallen(0, 0), -1);
    }

    private static void fallen() {
        promise = 16;
        VoteAuctions x = withAccounts(4, 0, 3, 0, 2, 0, 1, 0);
        x.question(2, 4, 5, 0, 0);
        x.question(0, 4, 5, 0, 0);
        due("fallen, no question", x.fallen(2, 0), -1);
        due("fallen, another kind", x.fallen(1, 0), -3);
        due("fallen, another kind, round -1", x.fallen(1, -1), -3);
        due("no votes, round 0", x.fallen(0, 0), 3);
        due("no votes, round 1", x.fallen(0, 1), 2);
        due("no votes, round 2", x.fallen(0, 2), 1);
        due("no votes, round 3", x.fallen(0, 3), -1);
        due("round -1", x.fallen(0, -1), -1);
        due("round MAX", x.fallen(0, Integer.MAX_VALUE), -1);
        x.vote(0, 0, 2);
        x.vote(0, 1, 1 + 8 * 3);
        x.vote(0, 2, 4 + 8 * 1);
        x.vote(0, 3, 3 + 8 * 4);
        // 3 4 1 2: 2 falls; 3 4 - 3: 3 falls, the greatest with least; 5 4 - -: 0 has more than half
        due("round 0", x.fallen(0, 0), 2);
        due("round 1", x.fallen(0, 1), 3);
        due("round 2", x.fallen(0, 2), -1);
        due("count 0", x.count(0, 0), 5);
        due("count 1", x.count(0, 1), 4);
        due("count 2", x.count(0, 2), 0);
        due("count 3", x.count(0, 3), 0);
        due("winner", x.winner(0), 0);
        x.vote(0, 3, 3);
        // 3 4 1 2: 2 falls, its weight counts no more; 3 4 - 2: 3 falls; 5 4 - -
        due("round 1 without a second rank", x.fallen(0, 1), 3);
        due("count 0 without a second rank", x.count(0, 0), 5);
        x.vote(0, 2, 4);
        // 3 4 1 2, 3 4 - 2, 3 4 - -: 4 of 7 that count is more than half
        due("winner of those that count", x.winner(0), 1);
        due("round 2 of those that count", x.fallen(0, 2), -1);
        x.vote(0, 0, 1);
        due("more than half at once", x.fallen(0, 0), -1);
    }

    private static void halfIsNotEnough() {
        promise = 16;
        VoteAuctions x = withAccounts(4, 0, 4, 0);
        x.question(2, 2, 5, 0, 0);
        x.vote(0, 0, 1);
        x.vote(0, 1, 2);
        due("the greatest of two falls", x.fallen(0, 0), 1);
        due("one alone", x.fallen(0, 1), -1);
        due("winner", x.winner(0), 0);
        due("count of the fallen", x.count(0, 1), 0);
    }

    private static void winner() {
        promise = 17;
        VoteAuctions x = withAccounts(4, 0, 4, 0, 0, 0);
        x.question(0, 3, 5, 0, 0);
        x.question(2, 3, 5, 0, 0);
        x.question(3, 3, 5, 0, 0);
        due("winner, no question", x.winner(3), -1);
        due("winner, -1", x.winner(-1), -1);
        due("no votes", x.winner(0), -3);
        due("no ranks", x.winner(1), -3);
        x.vote(0, 2, 1);
        x.vote(1, 2, 1);
        due("weight 0", x.winner(0), -3);
        due("ranks of weight 0", x.winner(1), -3);
        x.vote(0, 0, 2);
        x.vote(0, 1, 1);
        due("of several the least", x.winner(0), 1);
        x.vote(2, 0, 0);
        due("strengths 0", x.winner(2), -3);
        x.vote(2, 0, 32 * 2);
        due("strengths", x.winner(2), 1);
        x.vote(2, 1, 2);
        due("strengths, the least", x.winner(2), 0);
        x.vote(1, 0, 3);
        x.vote(1, 1, 2);
        due("ranks", x.winner(1), 1);
    }

    private static void passed() {
        promise = 18;
        VoteAuctions x = withAccounts(30, 0, 69, 0, 1, 0);
        x.question(0, 2, 1, 0, 31);
        x.question(0, 2, 1, 0, 32);
        x.question(0, 2, 1, 0, 0);
        x.question(0, 2, 1, 0, 0);
        x.question(3, 2, 1, 1, 30);
        x.question(3, 2, 1, 0, 31);
        x.speak(2, 0);
        x.vote(0, 0, 0);
        x.vote(1, 0, 0);
        x.vote(2, 0, 1);
        x.hide(4, 0, x.mark(0, 1, 1));
        x.vote(5, 0, 1);
        due("passed, no question", x.passed(6), -1);
        due("passed below end", x.passed(0), -3);
        x.tick(1);
        due("quorum reached", x.passed(0), 1);
        due("quorum missed", x.passed(1), 0);
        due("winner 1", x.passed(2), 0);
        due("no winner", x.passed(3), 0);
        due("hidden, below end", x.passed(4), -3);
        due("strengths have no speakers", x.passed(5), 0);
        x.reveal(4, 0, 1, 1);
        x.tick(1);
        due("strengths, quorum reached", x.passed(4), 1);
        x.speak(2, 2);
        x.weigh(0, 1);
        x.account(1000, 0);
        due("passed as it was at end", x.passed(0), 1);
    }

    private static void run() {
        promise = 19;
        VoteAuctions x = withAccounts(30, 100, 0, 0);
        x.question(0, 2, 1, 0, 0);
        x.question(0, 2, 1, 0, 0);
        x.question(0, 2, 1, 0, 0);
        x.question(0, 2, 1, 0, 0);
        x.call(0, 1, 50, 2);
        x.vote(0, 0, 0);
        x.vote(1, 0, 0);
        x.call(2, 1, 0, 0);
        x.vote(2, 0, 1);
        x.call(3, 1, 0, 0);
        x.vote(3, 0, 0);
        due("run, no question", x.run(4), -1);
        due("run below end", x.run(0), -3);
        due("run below end, no lock", x.run(3), -3);
        x.tick(1);
        due("no call", x.run(1), -3);
        due("not passed", x.run(2), -3);
        due("sum 0", x.run(3), 1);
        due("sum 0 again", x.run(3), -3);
        x.auction(3, 1, 49, 0, 9);
        x.auction(3, 1, 1, 0, 9);
        x.take(0, 0);
        x.tick(1);
        x.take(1, 0);
        due("locked", x.run(0), -3);
        x.tick(1);
        due("unlocked", x.run(0), 1);
        dueHolds(x, 1, 50, 0);
        due("pot()", x.pot(), 0);
        due("once", x.run(0), -3);
        dueHolds(x, 1, 50, 0);
    }

    private static void runNeedsThePot() {
        promise = 19;
        VoteAuctions x = withAccounts(30, 100);
        x.question(0, 2, 1, 0, 0);
        x.call(0, 0, 50, 0);
        x.vote(0, 0, 0);
        x.auction(3, 1, 49, 0, 9);
        x.auction(3, 1, 1, 0, 9);
        x.tick(1);
        x.take(0, 0);
        due("49 of 50", x.run(0), -3);
        x.take(1, 0);
        due("50 of 50", x.run(0), 1);
        dueHolds(x, 0, 100, 0);
    }

    private static void auction() {
        promise = 20;
        VoteAuctions x = new VoteAuctions();
        int[][] bad = {{-1, 1, 1, 0, 1}, {5, 1, 1, 0, 1}, {0, 2, 1, 0, 1}, {3, 0, 1, 0, 1}, {1, 2, 1, 0, 1},
            {4, 0, 1, 0, 1}, {4, 21, 1, 0, 1}, {0, 1, 0, 0, 1}, {0, 1, 10001, 0, 1}, {0, 1, 1, -1, 1},
            {0, 1, 1, 1001, 1}, {0, 1, 1, 0, 0}, {0, 1, 1, 0, 51}};
        for (int[] b : bad) {
            due("auction out of bounds", x.auction(b[0], b[1], b[2], b[3], b[4]), -2);
        }
        due("auction, least", x.auction(4, 1, 1, 0, 1), 0);
        due("auction, most", x.auction(4, 20, 10000, 1000, 50), 1);
        for (int i = 0; i < 4; i++) {
            due("auction of kind " + i, x.auction(i, 1, 10000, 1000, 50), 2 + i);
        }
        due("a seventh", x.auction(0, 1, 1, 0, 1), -4);
        due("a seventh out of bounds", x.auction(0, 2, 1, 0, 1), -2);
        due("price of kind 3", x.price(5), 60000);
        due("price of a seventh", x.price(6), -1);
        due("price of an eighth", x.price(7), -1);
    }

    private static void bidOpen() {
        promise = 21;
        VoteAuctions x = withAccounts(0, 100, 0, 1000, 0, 9);
        x.auction(0, 1, 10, 5, 3);
        x.auction(1, 1, 10, 5, 3);
        x.auction(3, 1, 10, 5, 3);
        due("bid, no auction", x.bid(3, 0, 0, 0), -1);
        due("bid, no account", x.bid(0, 3, 0, 0), -1);
        due("bid, 0 units", x.bid(0, 0, 0, 10), -2);
        due("bid, 2 units", x.bid(0, 0, 2, 10), -2);
        due("bid below least", x.bid(0, 0, 1, 9), -2);
        due("bid above most", x.bid(0, 0, 1, 1000001), -2);
        due("bid, kind 1", x.bid(1, 0, 1, 10), -3);
        due("bid, kind 3", x.bid(2, 0, 1, 10), -3);
        due("bid, kind 1 below least", x.bid(1, 0, 1, 9), -2);
        due("bid above funds", x.bid(0, 0, 1, 101), -3);
        due("bid of all funds", x.bid(0, 0, 1, 60), 1);
        dueHolds(x, 0, 40, 60);
        due("own bid below step", x.bid(0, 0, 1, 64), -3);
        due("own bid above funds and own", x.bid(0, 0, 1, 101), -3);
        due("own bid by funds and own", x.bid(0, 0, 1, 100), 1);
        dueHolds(x, 0, 0, 100);
        due("below step", x.bid(0, 1, 1, 104), -3);
        due("at step", x.bid(0, 1, 1, 105), 1);
        dueHolds(x, 0, 100, 0);
        dueHolds(x, 1, 895, 105);
        x.tick(2);
        due("one below end", x.bid(0, 1, 1, 110), 1);
        x.tick(1);
        due("at end", x.bid(0, 1, 1, 200), -3);
        dueHolds(x, 1, 890, 0);
        due("pot()", x.pot(), 110);
        due("won", x.won(0, 1), 1);
        due("lost", x.won(0, 0), 0);
    }

    private static void bidWithoutStep() {
        promise = 21;
        VoteAuctions x = withAccounts(0, 100, 0, 100);
        x.auction(0, 1, 10, 0, 3);
        due("first", x.bid(0, 0, 1, 50), 1);
        due("below", x.bid(0, 1, 1, 49), -3);
        due("the same price is 0 more", x.bid(0, 1, 1, 50), 1);
        x.tick(3);
        due("the later one won", x.won(0, 1), 1);
        dueHolds(x, 0, 100, 0);
    }

    private static void firstBidNeedsNoStep() {
        promise = 21;
        VoteAuctions x = withAccounts(0, 100, 0, 100);
        x.auction(0, 1, 10, 50, 3);
        due("least is enough at first", x.bid(0, 1, 1, 10), 1);
        due("then the step counts", x.bid(0, 0, 1, 59), -3);
        due("step above the best", x.bid(0, 0, 1, 60), 1);
    }

    private static void bidMany() {
        promise = 21;
        VoteAuctions x = withAccounts(0, 100, 0, 100, 0, 100, 0, 100);
        x.auction(4, 5, 10, 7, 3);
        due("6 units", x.bid(0, 0, 6, 10), -2);
        due("above funds", x.bid(0, 0, 5, 21), -3);
        due("all funds", x.bid(0, 0, 5, 20), 1);
        dueHolds(x, 0, 0, 100);
        due("in its place, funds and own", x.bid(0, 0, 4, 25), 1);
        due("in its place, less", x.bid(0, 0, 2, 12), 1);
        dueHolds(x, 0, 76, 24);
        due("no step here", x.bid(0, 1, 2, 12), 1);
        due("again, so told later", x.bid(0, 0, 2, 12), 1);
        due("greatest", x.bid(0, 2, 2, 30), 1);
        due("least", x.bid(0, 3, 5, 10), 1);
        due("price before end", x.price(0), -3);
        x.tick(3);
        due("price", x.price(0), 12);
        due("won of 0", x.won(0, 0), 1);
        due("won of 1", x.won(0, 1), 2);
        due("won of 2", x.won(0, 2), 2);
        due("won of 3", x.won(0, 3), 0);
        dueHolds(x, 0, 88, 0);
        dueHolds(x, 1, 76, 0);
        dueHolds(x, 2, 76, 0);
        dueHolds(x, 3, 100, 0);
        due("pot()", x.pot(), 60);
        due("at end", x.bid(0, 0, 1, 10), -3);
    }

    private static void bidManyWithUnitsLeft() {
        promise = 21;
        VoteAuctions x = withAccounts(0, 100);
        x.auction(4, 20, 10, 0, 2);
        x.auction(4, 20, 10, 0, 2);
        x.bid(0, 0, 3, 11);
        x.tick(2);
        due("price", x.price(0), 11);
        due("won", x.won(0, 0), 3);
        due("nobody's price", x.price(1), -3);
        dueHolds(x, 0, 67, 0);
    }

    private static void bidOfTwentyMillions() {
        promise = 21;
        VoteAuctions x = withAccounts(0, 1000000);
        x.auction(4, 20, 10, 0, 2);
        for (int i = 0; i < 190; i++) {
            x.fund(0, 100000);
        }
        due("20 units at a million", x.bid(0, 0, 20, 1000000), 1);
        dueHolds(x, 0, 0, 20000000);
        x.tick(2);
        due("pot()", x.pot(), 20000000);
    }

    private static void seal() {
        promise = 22;
        VoteAuctions x = withAccounts(0, 10, 0, 9);
        x.auction(1, 1, 10, 0, 2);
        x.auction(0, 1, 10, 0, 2);
        due("seal, no auction", x.seal(2, 0, 1), -1);
        due("seal, no account", x.seal(0, 2, 1), -1);
        due("seal, another kind", x.seal(1, 0, 1), -3);
        due("seal, less than least", x.seal(0, 1, 1), -3);
        due("seal", x.seal(0, 0, 1), 1);
        dueHolds(x, 0, 0, 10);
        x.tick(1);
        due("seal in place", x.seal(0, 0, x.mark(0, 10, 3)), 1);
        dueHolds(x, 0, 0, 10);
        x.tick(1);
        due("seal at shut", x.seal(0, 0, 1), -3);
        due("the later mark", x.unseal(0, 0, 10, 3), 1);
        x.tick(5);
        due("won", x.won(0, 0), 1);
    }

    private static void unseal() {
        promise = 23;
        VoteAuctions x = withAccounts(0, 100, 0, 100, 0, 100, 0, 100, 0, 100);
        x.auction(1, 1, 10, 0, 2);
        x.auction(4, 1, 10, 0, 2);
        x.seal(0, 0, x.mark(0, 50, 1));
        x.seal(0, 1, x.mark(1, 60, 2));
        x.seal(0, 2, x.mark(2, 101, 3));
        x.seal(0, 3, x.mark(3, 60, 4));
        due("unseal, no auction", x.unseal(2, 0, 9, 1), -1);
        due("unseal, no account", x.unseal(0, 5, 9, 1), -1);
        due("unseal below least", x.unseal(0, 0, 9, 1), -2);
        due("unseal above most", x.unseal(0, 0, 1000001, 1), -2);
        due("unseal, another kind", x.unseal(1, 0, 50, 1), -3);
        due("unseal below shut", x.unseal(0, 0, 50, 1), -3);
        x.tick(2);
        due("another salt", x.unseal(0, 0, 50, 2), -3);
        due("another price", x.unseal(0, 0, 51, 1), -3);
        due("no mark", x.unseal(0, 4, 50, 1), -3);
        due("above funds and least", x.unseal(0, 2, 101, 3), -3);
        due("opened", x.unseal(0, 0, 50, 1), 1);
        dueHolds(x, 0, 50, 50);
        due("opened again", x.unseal(0, 0, 50, 1), -3);
        due("later told, first opened", x.unseal(0, 3, 60, 4), 1);
        x.tick(4);
        due("one below end", x.unseal(0, 1, 60, 2), 1);
        due("price before end", x.price(0), -3);
        x.tick(1);
        due("the mark told first won", x.won(0, 1), 1);
        due("the later one did not", x.won(0, 3), 0);
        due("price", x.price(0), 60);
        dueHolds(x, 0, 100, 0);
        dueHolds(x, 1, 40, 0);
        dueHolds(x, 2, 90, 0);
        dueHolds(x, 3, 100, 0);
        due("pot()", x.pot(), 70);
        due("at end", x.unseal(0, 2, 100, 3), -3);
    }

    private static void unsealAtEnd() {
        promise = 23;
        VoteAuctions x = withAccounts(0, 100);
        x.auction(1, 1, 10, 0, 1);
        x.seal(0, 0, x.mark(0, 20, 1));
        x.tick(6);
        due("opened at end", x.unseal(0, 0, 20, 1), -3);
        dueHolds(x, 0, 90, 0);
        due("least is paid", x.pot(), 10);
    }

    private static void unsealAllFunds() {
        promise = 23;
        VoteAuctions x = withAccounts(0, 100);
        x.auction(2, 1, 10, 0, 1);
        x.seal(0, 0, x.mark(0, 100, 1));
        x.tick(1);
        due("funds and least together", x.unseal(0, 0, 100, 1), 1);
        dueHolds(x, 0, 0, 100);
        x.tick(5);
        due("alone: pays least", x.price(0), 10);
        dueHolds(x, 0, 90, 0);
        due("pot()", x.pot(), 10);
    }

    private static void unsealNextPrice() {
        promise = 23;
        VoteAuctions x = withAccounts(0, 100, 0, 100, 0, 100, 0, 100);
        x.auction(2, 1, 10, 0, 1);
        x.seal(0, 0, x.mark(0, 70, 1));
        x.seal(0, 1, x.mark(1, 70, 1));
        x.seal(0, 2, x.mark(2, 90, 1));
        x.seal(0, 3, x.mark(3, 80, 1));
        x.seal(0, 0, x.mark(0, 70, 1));
        x.tick(1);
        x.unseal(0, 0, 70, 1);
        x.unseal(0, 1, 70, 1);
        x.tick(5);
        due("the latest mark counts", x.won(0, 1), 1);
        due("price of the others", x.price(0), 70);
        dueHolds(x, 0, 100, 0);
        dueHolds(x, 1, 30, 0);
        dueHolds(x, 2, 90, 0);
        dueHolds(x, 3, 90, 0);
        due("pot()", x.pot(), 90);
    }

    private static void unsealSecondOfThree() {
        promise = 23;
        VoteAuctions x = withAccounts(0, 100, 0, 100, 0, 100);
        x.auction(2, 1, 10, 0, 1);
        for (int i = 0; i < 3; i++) {
            x.seal(0, i, x.mark(i, 30 + 20 * i, 1));
        }
        x.tick(1);
        for (int i = 0; i < 3; i++) {
            x.unseal(0, i, 30 + 20 * i, 1);
        }
        x.tick(5);
        due("won", x.won(0, 2), 1);
        due("price", x.price(0), 50);
        dueHolds(x, 2, 50, 0);
        dueHolds(x, 1, 100, 0);
    }

    private static void take() {
        promise = 24;
        VoteAuctions x = withAccounts(0, 25, 0, 100);
        x.auction(3, 1, 10, 5, 4);
        x.auction(0, 1, 10, 5, 4);
        x.auction(3, 1, 10, 5, 1);
        due("take, no auction", x.take(3, 0), -1);
        due("take, no account", x.take(0, 2), -1);
        due("take, another kind", x.take(1, 1), -3);
        due("funds are less", x.take(0, 0), -3);
        x.tick(1);
        due("at end", x.take(2, 1), -3);
        due("funds are enough", x.take(0, 0), 25);
        dueHolds(x, 0, 0, 0);
        due("pot()", x.pot(), 25);
        due("it is over", x.take(0, 1), -3);
        due("won", x.won(0, 0), 1);
    }

    private static void price() {
        promise = 25;
        VoteAuctions x = withAccounts(0, 1000, 0, 1000);
        x.auction(0, 1, 10, 5, 2);
        x.auction(3, 1, 10, 5, 2);
        x.auction(3, 1, 10, 5, 2);
        x.auction(1, 1, 10, 5, 2);
        due("price, no auction", x.price(4), -1);
        due("price, -1", x.price(-1), -1);
        due("no best yet", x.price(0), -3);
        x.bid(0, 0, 1, 17);
        due("the best", x.price(0), 17);
        due("falling, at first", x.price(1), 20);
        x.tick(1);
        due("falling, later", x.price(1), 15);
        x.take(1, 0);
        due("what was paid", x.price(1), 15);
        x.tick(1);
        due("what was paid, at end", x.price(1), 15);
        due("nobody took it", x.price(2), -3);
        due("the best, at end", x.price(0), 17);
        x.tick(5);
        due("nothing was won", x.price(3), -3);
    }

    private static void won() {
        promise = 26;
        VoteAuctions x = withAccounts(0, 1000, 0, 1000);
        x.auction(0, 1, 10, 5, 1);
        due("won, no auction", x.won(1, 0), -1);
        due("won, no account", x.won(0, 2), -1);
        x.bid(0, 1, 1, 10);
        due("won before end", x.won(0, 1), 0);
        x.tick(1);
        due("won at end", x.won(0, 1), 1);
        due("lost", x.won(0, 0), 0);
        x.account(0, 0);
        due("a later account", x.won(0, 2), 0);
    }

    public static void main(String[] args) {
        newObject();
        account();
        weigh();
        fund();
        speak();
        holds();
        pot();
        tick();
        mark();
        question();
        call();
        vote();
        hide();
        reveal();
        count();
        countOfLongRow();
        countOfRanks();
        fallen();
        halfIsNotEnough();
        winner();
        passed();
        run();
        runNeedsThePot();
        auction();
        bidOpen();
        bidWithoutStep();
        firstBidNeedsNoStep();
        bidMany();
        bidManyWithUnitsLeft();
        bidOfTwentyMillions();
        seal();
        unseal();
        unsealAtEnd();
        unsealAllFunds();
        unsealNextPrice();
        unsealSecondOfThree();
        take();
        price();
        won();
        System.out.println(wrong == 0 ? "all answers are as due" : wrong + " answers are not as due");
        if (wrong != 0) {
            System.exit(1);
        }
    }
}
