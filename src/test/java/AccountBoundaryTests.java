import java.io.IOException;
import java.math.BigInteger;

/** Boundary tests of promises 1 to 9, and of what the document says of accounts and of tick(). */
public final class AccountBoundaryTests extends Boundaries {
    private static final int[] NO_NUMBERS = {-1, Integer.MIN_VALUE, Integer.MAX_VALUE};
    private static final int[] MARK_EDGES = {0, 1, -1, 2, -2, 7, 1000000, Integer.MAX_VALUE, Integer.MIN_VALUE,
        Integer.MAX_VALUE - 1, Integer.MIN_VALUE + 1, 0x55555555, 0xAAAAAAAA};

    private AccountBoundaryTests() throws IOException {
    }

    private void whatItIs() {
        section("What it is");
        says("funds are kept exactly", "the greatest sums that 512 calls can make", this::greatestSums);
        says("at most 512 calls", "the 512th call answers as the first", () -> {
            VoteAuctions x = new VoteAuctions();
            for (int i = 1; i <= 512; i++) {
                due("tick(50), call " + i, x.tick(50), 50 * i);
            }
            VoteAuctions y = withAccounts(3, 5);
            for (int i = 2; i < 512; i++) {
                y.fund(0, 100000);
            }
            due("holds(0, 1), call 512", y.holds(0, 1), 5 + 510 * 100000L);
        });
    }

    private void greatestSums() {
        VoteAuctions x = new VoteAuctions();
        for (int i = 0; i < 8; i++) {
            x.account(1000, 1000000);
        }
        for (int i = 0; i < 8 * 45; i++) {
            x.fund(i % 8, 100000);
        }
        long each = 1000000 + 45 * 100000;
        for (int i = 0; i < 6; i++) {
            x.auction(4, 20, 1, 0, 1);
        }
        for (int i = 0; i < 6; i++) {
            due("bid(" + i + ", 5, 5, 1000000)", x.bid(i, i, 5, 1000000), 1);
            dueHolds(x, i, each - 5000000, 5000000);
        }
        x.tick(1);
        due("pot()", x.pot(), 30000000);
        for (int i = 0; i < 8; i++) {
            dueHolds(x, i, i < 6 ? each - 5000000 : each, 0);
        }
    }

    private void termsOfAccounts() {
        section("Terms, accounts");
        says("HEIGHT is 0 at first", "a new object", () -> due("tick(0)", new VoteAuctions().tick(0), 0));
        says("and grows by tick() alone", "after every other call", () -> {
            VoteAuctions x = withAccounts(9, 1000, 9, 1000);
            makeEveryOtherCall(x);
            due("tick(0)", x.tick(0), 0);
            due("tick(1)", x.tick(1), 1);
        });
        says("ACCOUNTS are 0, 1, .. (8 at most)", "full, and one more", () -> {
            VoteAuctions x = new VoteAuctions();
            for (int i = 0; i < 8; i++) {
                due("holds(" + i + ", 0) before it is there", x.holds(i, 0), -1);
                due("account " + i, x.account(10 + i, 20 + i), i);
            }
            due("a ninth account", x.account(5, 5), -4);
            due("holds(8, 0)", x.holds(8, 0), -1);
            for (int i = 0; i < 8; i++) {
                due("holds(" + i + ", 0)", x.holds(i, 0), 10 + i);
                dueHolds(x, i, 20 + i, 0);
            }
        });
        says("FUNDS (0 or more)", "a bid, a mark, an opened mark and a take of all that is there, and of one more",
            this::fundsDownToZero);
        says("what is SET ASIDE of them (which is not among them)", "what is set aside can't be used again", () -> {
            VoteAuctions x = withAccounts(0, 30);
            x.auction(0, 1, 10, 0, 2);
            x.auction(3, 1, 21, 0, 2);
            due("bid", x.bid(0, 0, 1, 10), 1);
            dueHolds(x, 0, 20, 10);
            due("take for 21 of 20", x.take(1, 0), -3);
            dueHolds(x, 0, 20, 10);
        });
        says("a SPEAKER, another one (at first it has none)", "nobody speaks for a new account", () -> {
            VoteAuctions x = withAccounts(3, 0, 4, 0);
            x.question(0, 2, 2, 0, 0);
            x.vote(0, 0, 1);
            due("count", x.count(0, 1), 3);
            due("speak(1, 1)", x.speak(1, 1), 1);
            due("speak(0, 0)", x.speak(0, 0), 0);
        });
        says("There is a POT, 0 at first", "a new object", () -> due("pot()", new VoteAuctions().pot(), 0));
        termsOfMarks();
    }

    private void makeEveryOtherCall(VoteAuctions x) {
        due("account", x.account(1, 1), 2);
        due("weigh", x.weigh(0, 8), 9);
        due("fund", x.fund(0, 5), 1);
        due("speak", x.speak(0, 1), 0);
        due("question", x.question(0, 2, 1, 0, 0), 0);
        due("question", x.question(2, 2, 1, 1, 0), 1);
        due("call", x.call(0, 0, 0, 0), 1);
        due("vote", x.vote(0, 0, 0), 1);
        due("hide", x.hide(1, 0, x.mark(0, 1, 1)), 1);
        due("reveal", x.reveal(1, 0, 1, 1), -3);
        due("count", x.count(0, 0), 8);
        due("fallen", x.fallen(1, 0), 1);
        due("winner", x.winner(0), 0);
        due("passed", x.passed(0), -3);
        due("run", x.run(0), -3);
        for (int kind = 0; kind < 5; kind++) {
            due("auction", x.auction(kind, 1, 1, 1, 1), kind);
        }
        due("bid", x.bid(0, 0, 1, 1), 1);
        due("bid", x.bid(4, 0, 1, 1), 1);
        due("seal", x.seal(1, 0, 1), 1);
        due("seal", x.seal(2, 0, 1), 1);
        due("unseal", x.unseal(1, 0, 1, 1), -3);
        due("take", x.take(3, 0), 2);
        due("price", x.price(0), 1);
        due("won", x.won(3, 0), 1);
        due("holds", x.holds(0, 1), 1005 - 6);
        due("pot", x.pot(), 2);
    }

    private void fundsDownToZero() {
        VoteAuctions x = withAccounts(0, 20, 0, 20, 0, 20, 0, 20);
        for (int kind = 0; kind < 5; kind++) {
            x.auction(kind, 1, kind == 4 || kind == 0 ? 1 : 20, 0, 2);
        }
        due("open bid of 21", x.bid(0, 0, 1, 21), -3);
        dueHolds(x, 0, 20, 0);
        due("open bid of 20", x.bid(0, 0, 1, 20), 1);
        dueHolds(x, 0, 0, 20);
        due("bid for a unit at 21", x.bid(4, 1, 1, 21), -3);
        due("bid for a unit at 20", x.bid(4, 1, 1, 20), 1);
        dueHolds(x, 1, 0, 20);
        due("mark, least 20", x.seal(1, 2, x.mark(2, 21, 0)), 1);
        dueHolds(x, 2, 0, 20);
        due("mark, least 20 of 0", x.seal(2, 2, 5), -3);
        due("take for 20", x.take(3, 3), 20);
        dueHolds(x, 3, 0, 0);
        x.tick(2);
        due("opened at 21 of 20", x.unseal(1, 2, 21, 0), -3);
        dueHolds(x, 2, 0, 20);
        x.fund(2, 1);
        due("opened at 21 of 21", x.unseal(1, 2, 21, 0), 1);
        dueHolds(x, 2, 0, 21);
    }

    private void termsOfMarks() {
        says("64 bits that wrap", "all edges of the three numbers, by numbers without an end", () -> {
            VoteAuctions any = new VoteAuctions();
            for (int x : MARK_EDGES) {
                for (int y : MARK_EDGES) {
                    VoteAuctions v = new VoteAuctions();
                    for (int z : MARK_EDGES) {
                        due("mark(" + x + ", " + y + ", " + z + ")", v.mark(x, y, z), exactMark(x, y, z));
                    }
                }
            }
            due("mark(0, 1, 7)", any.mark(0, 1, 7), -4658895298651300184L);
        });
        says(">>> brings in zeros", "both are of numbers below 0", () -> {
            VoteAuctions x = new VoteAuctions();
            // times 1 and plus -1: t is -1 at the first, and what comes of it at the second is below 0 too
            long t = (-1L ^ (-1L >>> 31)) * 0xBF58476D1CE4E5B9L;
            due("mark(0, -1, 0)", x.mark(0, -1, 0), t ^ (t >>> 29));
            due("mark(0, 0, -1), whose upper 29 bits stay", x.mark(0, 0, -1) >>> 35, (1L << 29) - 1);
            due("mark(0, 0, -1), whose others turn", x.mark(0, 0, -1) & ((1L << 35) - 1), 0);
        });
        says("t is x times 0x9E3779B97F4A7C15, plus y", "x and y below 0, the greatest", () -> {
            VoteAuctions x = new VoteAuctions();
            due("mark(-1, 0, 0)", x.mark(-1, 0, 0), exactMark(-1, 0, 0));
            due("mark(1, -1, 0)", x.mark(1, -1, 0), exactMark(1, -1, 0));
            due("mark(MAX, MAX, 0)", x.mark(Integer.MAX_VALUE, Integer.MAX_VALUE, 0),
                exactMark(Integer.MAX_VALUE, Integer.MAX_VALUE, 0));
        });
        says("t becomes t xor (t >>> 31), times 0xBF58476D1CE4E5B9, plus z; it is t xor (t >>> 29)",
            "the first number of which each part is not 0; z below 0, the greatest", () -> {
                VoteAuctions x = new VoteAuctions();
                due("mark(0, MIN, 0)", x.mark(0, Integer.MIN_VALUE, 0), exactMark(0, Integer.MIN_VALUE, 0));
                due("mark(0, 0, 2^29)", x.mark(0, 0, 1 << 29), (1 << 29) + 1);
                due("mark(0, 0, 2^29 - 1)", x.mark(0, 0, (1 << 29) - 1), (1 << 29) - 1);
                due("mark(7, 7, -1)", x.mark(7, 7, -1), exactMark(7, 7, -1));
                due("mark(7, 7, MAX)", x.mark(7, 7, Integer.MAX_VALUE), exactMark(7, 7, Integer.MAX_VALUE));
            });
    }

    private static long exactMark(int x, int y, int z) {
        BigInteger all = BigInteger.ONE.shiftLeft(64);
        BigInteger t = BigInteger.valueOf(x).multiply(new BigInteger("9E3779B97F4A7C15", 16))
            .add(BigInteger.valueOf(y)).mod(all);
        t = t.xor(t.shiftRight(31)).multiply(new BigInteger("BF58476D1CE4E5B9", 16))
            .add(BigInteger.valueOf(z)).mod(all);
        return t.xor(t.shiftRight(29)).longValue();
    }

    private void newObject() {
        section("Promise 1");
        says("HEIGHT 0, nothing is there", "every call on a new object", () -> {
            VoteAuctions x = new VoteAuctions();
            due("pot()", x.pot(), 0);
            due("tick(0)", x.tick(0), 0);
            for (int i : new int[] {0, 1, 5, 6, 7, 8, -1, Integer.MAX_VALUE, Integer.MIN_VALUE}) {
                dueNothingThere(x, i);
            }
            due("account", x.account(0, 0), 0);
            due("question", x.question(0, 2, 1, 0, 0), 0);
            due("auction", x.auction(0, 1, 1, 0, 1), 0);
        });
        says("nothing is there", "of another object", () -> {
            VoteAuctions full = withAccounts(1, 1);
            full.question(0, 2, 1, 0, 0);
            full.auction(0, 1, 1, 0, 1);
            full.tick(3);
            VoteAuctions x = new VoteAuctions();
            due("tick(0)", x.tick(0), 0);
            dueNothingThere(x, 0);
        });
    }

    private void dueNothingThere(VoteAuctions x, int i) {
        due("weigh", x.weigh(i, 0), -1);
        due("fund", x.fund(i, 0), -1);
        due("speak", x.speak(i, i), -1);
        due("holds", x.holds(i, 0), -1);
        due("call", x.call(i, i, 0, 0), -1);
        due("vote", x.vote(i, i, 0), -1);
        due("hide", x.hide(i, i, 0), -1);
        due("reveal", x.reveal(i, i, 0, 0), -1);
        due("count", x.count(i, 0), -1);
        due("fallen", x.fallen(i, 0), -1);
        due("winner", x.winner(i), -1);
        due("passed", x.passed(i), -1);
        due("run", x.run(i), -1);
        due("bid", x.bid(i, i, 1, 1), -1);
        due("seal", x.seal(i, i, 0), -1);
        due("unseal", x.unseal(i, i, 1, 0), -1);
        due("take", x.take(i, i), -1);
        due("price", x.price(i), -1);
        due("won", x.won(i, i), -1);
    }

    private void account() {
        section("Promise 2");
        says("a WEIGHT (0 .. 1000)", "the last that is taken, the first that is refused", () -> {
            VoteAuctions x = new VoteAuctions();
            for (int bad : new int[] {-1, 1001, Integer.MIN_VALUE, Integer.MAX_VALUE}) {
                due("account(" + bad + ", 0)", x.account(bad, 0), -2);
            }
            due("account(0, 0)", x.account(0, 0), 0);
            due("account(1000, 0)", x.account(1000, 0), 1);
            due("holds(0, 0)", x.holds(0, 0), 0);
            due("holds(1, 0)", x.holds(1, 0), 1000);
        });
        says("and FUNDS (0 .. 1000000)", "the last that is taken, the first that is refused", () -> {
            VoteAuctions x = new VoteAuctions();
            for (int bad : new int[] {-1, 1000001, Integer.MIN_VALUE, Integer.MAX_VALUE}) {
                due("account(0, " + bad + ")", x.account(0, bad), -2);
            }
            due("account(0, 0)", x.account(0, 0), 0);
            due("account(0, 1000000)", x.account(0, 1000000), 1);
            dueHolds(x, 0, 0, 0);
            dueHolds(x, 1, 1000000, 0);
        });
        says("its number", "a refused one takes none", () -> {
            VoteAuctions x = new VoteAuctions();
            due("account(1, 1)", x.account(1, 1), 0);
            due("account(1001, 1)", x.account(1001, 1), -2);
            due("account(1, 1)", x.account(1, 1), 1);
        });
        says("-2, -4", "outside its bounds where there is no room", () -> {
            VoteAuctions x = withAccounts(new int[16]);
            due("account(1001, 0)", x.account(1001, 0), -2);
            due("account(0, 1000001)", x.account(0, 1000001), -2);
            due("account(-1, -1)", x.account(-1, -1), -2);
            due("account(0, 0)", x.account(0, 0), -4);
        });
    }

    private void weigh() {
        section("Promise 3");
        says("from now on (0 .. 1000)", "the last that is taken, the first that is refused", () -> {
            VoteAuctions x = withAccounts(5, 0);
            for (int bad : new int[] {-1, 1001, Integer.MIN_VALUE, Integer.MAX_VALUE}) {
                due("weigh(0, " + bad + ")", x.weigh(0, bad), -2);
                due("holds(0, 0)", x.holds(0, 0), 5);
            }
            due("weigh(0, 1000)", x.weigh(0, 1000), 5);
            due("holds(0, 0)", x.holds(0, 0), 1000);
            due("weigh(0, 0)", x.weigh(0, 0), 1000);
            due("holds(0, 0)", x.holds(0, 0), 0);
        });
        says("An ACCOUNT's WEIGHT from now on", "a question asked before, one asked after", () -> {
            VoteAuctions x = withAccounts(5, 0);
            x.question(0, 2, 3, 0, 0);
            x.weigh(0, 9);
            x.question(0, 2, 3, 0, 0);
            x.vote(0, 0, 1);
            x.vote(1, 0, 1);
            due("count(0, 1)", x.count(0, 1), 5);
            due("count(1, 1)", x.count(1, 1), 9);
        });
        says("what it was", "the same again", () -> {
            VoteAuctions x = withAccounts(5, 0);
            due("weigh(0, 6)", x.weigh(0, 6), 5);
            due("weigh(0, 6)", x.weigh(0, 6), 6);
            due("weigh(0, 5)", x.weigh(0, 5), 6);
        });
        says("-1, -2", "no account, and no weight", () -> {
            VoteAuctions x = withAccounts(5, 0);
            due("weigh(1, 5)", x.weigh(1, 5), -1);
            due("weigh(1, 1001)", x.weigh(1, 1001), -1);
            for (int no : NO_NUMBERS) {
                due("weigh(" + no + ", -1)", x.weigh(no, -1), -1);
            }
        });
    }

    private void fund() {
        section("Promise 4");
        says("So much more FUNDS (0 .. 100000)", "the last that is taken, the first that is refused", () -> {
            VoteAuctions x = withAccounts(5, 7);
            for (int bad : new int[] {-1, 100001, Integer.MIN_VALUE, Integer.MAX_VALUE}) {
                due("fund(0, " + bad + ")", x.fund(0, bad), -2);
                dueHolds(x, 0, 7, 0);
            }
            due("fund(0, 0)", x.fund(0, 0), 1);
            dueHolds(x, 0, 7, 0);
            due("fund(0, 100000)", x.fund(0, 100000), 1);
            dueHolds(x, 0, 100007, 0);
        });
        says("So much more FUNDS", "above the most that an account begins with", () -> {
            VoteAuctions x = withAccounts(5, 1000000);
            due("fund(0, 1)", x.fund(0, 1), 1);
            dueHolds(x, 0, 1000001, 0);
        });
        says("-1, -2", "no account, and no amount", () -> {
            VoteAuctions x = withAccounts(5, 7);
            due("fund(1, 5)", x.fund(1, 5), -1);
            due("fund(1, 100001)", x.fund(1, 100001), -1);
            for (int no : NO_NUMBERS) {
                due("fund(" + no + ", -1)", x.fund(no, -1), -1);
            }
            dueHolds(x, 0, 7, 0);
        });
    }

    private void speak() {
        section("Promise 5");
        says("Another one is the ACCOUNT's SPEAKER", "the first and the last account, each for the other", () -> {
            VoteAuctions x = withAccounts(new int[16]);
            due("speak(0, 7)", x.speak(0, 7), 0);
            due("speak(7, 0)", x.speak(7, 0), 7);
            due("speak(0, 7)", x.speak(0, 7), 7);
            due("speak(7, 1)", x.speak(7, 1), 0);
        });
        says("itself: it has none any more", "its weight is given to nobody", () -> {
            VoteAuctions x = withAccounts(1, 0, 2, 0);
            x.question(0, 2, 3, 0, 0);
            x.vote(0, 1, 1);
            x.speak(0, 1);
            due("count", x.count(0, 1), 3);
            due("speak(0, 0)", x.speak(0, 0), 1);
            due("count", x.count(0, 1), 2);
        });
        says("which it had (itself: none)", "none, one, the same, another, none", () -> {
            VoteAuctions x = withAccounts(1, 0, 2, 0, 3, 0);
            due("speak(1, 1)", x.speak(1, 1), 1);
            due("speak(1, 0)", x.speak(1, 0), 1);
            due("speak(1, 0)", x.speak(1, 0), 0);
            due("speak(1, 2)", x.speak(1, 2), 0);
            due("speak(1, 1)", x.speak(1, 1), 2);
            due("speak(1, 1)", x.speak(1, 1), 1);
        });
        says("-1 (either)", "the one, the other, both", () -> {
            VoteAuctions x = withAccounts(1, 0, 2, 0);
            x.speak(0, 1);
            for (int no : new int[] {2, 8, -1, Integer.MIN_VALUE, Integer.MAX_VALUE}) {
                due("speak(0, " + no + ")", x.speak(0, no), -1);
                due("speak(" + no + ", 0)", x.speak(no, 0), -1);
                due("speak(" + no + ", itself)", x.speak(no, no), -1);
            }
            due("the speaker that it has still", x.speak(0, 0), 1);
        });
    }

    private void holdsAndPot() {
        section("Promise 6");
        says("what = 0 its WEIGHT, 1 FUNDS, 2 what is SET ASIDE", "each, and one below and above", () -> {
            VoteAuctions x = withAccounts(7, 90);
            x.auction(0, 1, 10, 0, 5);
            x.bid(0, 0, 1, 30);
            due("holds(0, 0)", x.holds(0, 0), 7);
            due("holds(0, 1)", x.holds(0, 1), 60);
            due("holds(0, 2)", x.holds(0, 2), 30);
            due("holds(0, -1)", x.holds(0, -1), -2);
            due("holds(0, 3)", x.holds(0, 3), -2);
            due("holds(0, MIN)", x.holds(0, Integer.MIN_VALUE), -2);
            due("holds(0, MAX)", x.holds(0, Integer.MAX_VALUE), -2);
        });
        says("Of an ACCOUNT", "which has nothing", () -> {
            VoteAuctions x = withAccounts(0, 0);
            due("holds(0, 0)", x.holds(0, 0), 0);
            dueHolds(x, 0, 0, 0);
        });
        says("-1, -2", "no account, and no such thing", () -> {
            VoteAuctions x = withAccounts(7, 90);
            for (int no : new int[] {1, 8, -1, Integer.MIN_VALUE, Integer.MAX_VALUE}) {
                due("holds(" + no + ", 0)", x.holds(no, 0), -1);
                due("holds(" + no + ", 3)", x.holds(no, 3), -1);
            }
        });
        section("Promise 7");
        says("The POT", "what is set aside is not in it, what is paid is, what a call pays is not", () -> {
            VoteAuctions x = withAccounts(7, 90);
            x.auction(0, 1, 10, 0, 1);
            x.question(0, 2, 1, 0, 0);
            x.vote(0, 0, 0);
            x.call(0, 0, 10, 0);
            x.bid(0, 0, 1, 10);
            due("pot()", x.pot(), 0);
            x.tick(1);
            due("pot()", x.pot(), 10);
            due("run(0)", x.run(0), 1);
            due("pot()", x.pot(), 0);
        });
    }

    private void tick() {
        section("Promise 8");
        says("HEIGHT grows by n (0 .. 50)", "the last that is taken, the first that is refused", () -> {
            VoteAuctions x = new VoteAuctions();
            for (int bad : new int[] {-1, 51, Integer.MIN_VALUE, Integer.MAX_VALUE}) {
                due("tick(" + bad + ")", x.tick(bad), -2);
            }
            due("tick(0)", x.tick(0), 0);
            due("tick(50)", x.tick(50), 50);
            due("tick(0)", x.tick(0), 50);
            due("tick(1)", x.tick(1), 51);
        });
        says("what it is", "after it grew, not before, and after one that is refused", () -> {
            VoteAuctions x = new VoteAuctions();
            due("tick(3)", x.tick(3), 3);
            due("tick(-1)", x.tick(-1), -2);
            due("tick(51)", x.tick(51), -2);
            due("tick(4)", x.tick(4), 7);
        });
        says("HEIGHT grows by n", "by 0: nothing comes to its end again", () -> {
            VoteAuctions x = withAccounts(7, 90);
            x.auction(0, 1, 10, 0, 1);
            x.bid(0, 0, 1, 30);
            x.tick(0);
            dueHolds(x, 0, 60, 30);
            x.tick(1);
            x.tick(0);
            x.tick(0);
            dueHolds(x, 0, 60, 0);
            due("pot()", x.pot(), 30);
        });
        says("-2", "nothing comes to its end", () -> {
            VoteAuctions x = withAccounts(7, 90);
            x.auction(0, 1, 10, 0, 50);
            x.bid(0, 0, 1, 30);
            due("tick(51)", x.tick(51), -2);
            dueHolds(x, 0, 60, 30);
            due("tick(0)", x.tick(0), 0);
        });
        section("Promise 9");
        says("THE MARK of three numbers", "three times 0, and the last alone", () -> {
            VoteAuctions x = new VoteAuctions();
            due("mark(0, 0, 0)", x.mark(0, 0, 0), 0);
            due("mark(0, 0, 5)", x.mark(0, 0, 5), 5);
            due("mark(0, 0, MAX)", x.mark(0, 0, Integer.MAX_VALUE), Integer.MAX_VALUE ^ 3L);
            due("mark(0, 0, MIN)", x.mark(0, 0, Integer.MIN_VALUE), exactMark(0, 0, Integer.MIN_VALUE));
        });
    }

    private void termsOfTick() {
        section("Terms, tick");
        says("In tick() the HEIGHT grows one by one", "50 at once are 50 times one", () -> {
            VoteAuctions once = worldOfEnds();
            VoteAuctions often = worldOfEnds();
            once.tick(50);
            for (int i = 0; i < 50; i++) {
                often.tick(1);
            }
            due("tick(0)", once.tick(0), often.tick(0));
            due("pot()", once.pot(), often.pot());
            due("pot()", once.pot(), 20 + 8 + 50 + 10 + 17);
            for (int a = 0; a < 3; a++) {
                dueHolds(once, a, often.holds(a, 1), 0);
                due("won", once.won(0, a) + 2 * once.won(1, a), often.won(0, a) + 2 * often.won(1, a));
            }
            due("passed(0)", once.passed(0), 1);
            due("passed(1)", once.passed(1), 1);
        });
        says("whose END it is come to their end", "one height before, and at it, each by itself", () -> {
            VoteAuctions x = withAccounts(0, 100);
            for (int i = 0; i < 3; i++) {
                x.auction(0, 1, 1, 0, 1 + i);
                x.bid(i, 0, 1, 10);
            }
            for (int i = 1; i <= 3; i++) {
                x.tick(1);
                dueHolds(x, 0, 70, 30 - 10 * i);
                due("pot()", x.pot(), 10 * i);
                due("won", x.won(i - 1, 0), 1);
                due("won of the next", x.won(Math.min(i, 2), 0), i == 3 ? 1 : 0);
            }
        });
        says("first QUESTIONS, then AUCTIONS", "both at one height: the pot has what a call needs", () -> {
            VoteAuctions x = withAccounts(5, 100);
            x.question(0, 2, 4, 0, 0);
            x.call(0, 0, 30, 0);
            x.vote(0, 0, 0);
            x.auction(0, 1, 30, 0, 4);
            x.bid(0, 0, 1, 30);
            x.tick(4);
            due("run(0)", x.run(0), 1);
            dueHolds(x, 0, 100, 0);
        });
        says("by numbers", "six auctions at one height, all of one account", () -> {
            VoteAuctions x = withAccounts(5, 100);
            for (int i = 0; i < 6; i++) {
                x.auction(0, 1, 1 + i, 0, 2);
                x.bid(i, 0, 1, 1 + i);
            }
            dueHolds(x, 0, 79, 21);
            x.tick(50);
            dueHolds(x, 0, 79, 0);
            due("pot()", x.pot(), 21);
        });
    }

    private static VoteAuctions worldOfEnds() {
        VoteAuctions x = withAccounts(5, 100, 5, 100, 5, 100);
        x.question(0, 2, 3, 0, 60);
        x.question(0, 2, 50, 0, 60);
        x.vote(0, 0, 0);
        x.vote(1, 0, 0);
        x.speak(1, 0);
        x.auction(0, 1, 10, 0, 3);
        x.auction(1, 1, 8, 0, 45);
        x.auction(4, 5, 5, 0, 50);
        x.auction(2, 1, 10, 0, 1);
        x.auction(0, 1, 17, 0, 50);
        x.bid(0, 0, 1, 20);
        x.seal(1, 1, 1);
        x.bid(2, 2, 5, 10);
        x.seal(3, 2, 3);
        x.bid(4, 0, 1, 17);
        return x;
    }

    public static void main(String[] args) throws IOException {
        AccountBoundaryTests tests = new AccountBoundaryTests();
        tests.whatItIs();
        tests.termsOfAccounts();
        tests.newObject();
        tests.account();
        tests.weigh();
        tests.fund();
        tests.speak();
        tests.holdsAndPot();
        tests.tick();
        tests.termsOfTick();
        tests.end();
    }
}
