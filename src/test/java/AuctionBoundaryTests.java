import java.io.IOException;

/** Boundary tests of promises 20 to 26, and of what the document says of auctions. */
public final class AuctionBoundaryTests extends Boundaries {
    private static final int[] NOT_THERE = {5, 6, 8, -1, Integer.MIN_VALUE, Integer.MAX_VALUE};

    private AuctionBoundaryTests() throws IOException {
    }

    // ---- what the terms say

    private void termsOfAuctions() {
        section("Terms, auctions");
        says("AUCTIONS 0, 1, .. (6 at most)", "full, and one more", () -> {
            VoteAuctions x = withAccounts(0, 100);
            for (int i = 0; i < 6; i++) {
                due("price before it is there", x.price(i), -1);
                due("auction", x.auction(0, 1, 1, 0, 2), i);
                due("price", x.price(i), -3);
            }
            due("a seventh auction", x.auction(0, 1, 1, 0, 2), -4);
            due("price of a seventh", x.price(6), -1);
            due("bid in the last", x.bid(5, 0, 1, 7), 1);
            due("price of the last", x.price(5), 7);
        });
        says("What is paid goes from FUNDS to the POT", "in each KIND, not one more or less", () -> {
            for (int kind = 0; kind < 5; kind++) {
                VoteAuctions x = withAccounts(0, 100);
                x.auction(kind, 1, 30, 0, 1);
                offer(x, kind, 0, 0, 40);
                x.tick(6);
                int paid = kind == 2 || kind == 3 ? 30 : 40;
                dueHolds(x, 0, 100 - paid, 0);
                due("pot()", x.pot(), paid);
            }
        });
        termsOfOpen();
        termsOfSealed();
        termsOfSealedEnds();
        termsOfFalling();
        termsOfMany();
        says("An AUCTION is OVER from END on", "at END and above it, in each KIND", () -> {
            VoteAuctions x = withAccounts(0, 1000);
            for (int kind = 0; kind < 5; kind++) {
                x.auction(kind, 1, 1, 0, 1);
            }
            x.tick(1);
            dueOver(x, new int[] {0, 3, 4});
            x.tick(5);
            dueOver(x, new int[] {0, 1, 2, 3, 4});
            x.tick(50);
            dueOver(x, new int[] {0, 1, 2, 3, 4});
            dueHolds(x, 0, 1000, 0);
        });
    }

    /** What an account does to get the one unit at a price, in an auction that is shut one height later. */
    private static void offer(VoteAuctions x, int kind, int auction, int account, int price) {
        if (kind == 0 || kind == 4) {
            x.bid(auction, account, 1, price);
        } else if (kind == 3) {
            x.take(auction, account);
        } else {
            x.seal(auction, account, x.mark(account, price, 0));
            x.tick(1);
            x.unseal(auction, account, price, 0);
        }
    }

    private void dueOver(VoteAuctions x, int[] auctions) {
        for (int a : auctions) {
            due("bid in " + a, x.bid(a, 0, 1, 1), -3);
            due("seal in " + a, x.seal(a, 0, 1), -3);
            due("unseal in " + a, x.unseal(a, 0, 1, 1), -3);
            due("take in " + a, x.take(a, 0), -3);
            due("price of " + a, x.price(a), -3);
            due("won of " + a, x.won(a, 0), 0);
        }
    }

    private void termsOfOpen() {
        says("KIND 0: bids till END", "one below, at it", () -> {
            VoteAuctions x = withAccounts(0, 100);
            x.tick(4);
            x.auction(0, 1, 1, 0, 3);
            x.tick(2);
            due("bid one below", x.bid(0, 0, 1, 5), 1);
            x.tick(1);
            due("bid at it", x.bid(0, 0, 1, 6), -3);
            due("price", x.price(0), 5);
        });
        says("each is LEAST or more", "one less, LEAST", () -> {
            for (int least : new int[] {1, 10, 10000}) {
                VoteAuctions x = withAccounts(0, 10000);
                x.auction(0, 1, least, 0, 3);
                due("bid of one less than " + least, x.bid(0, 0, 1, least - 1), -2);
                due("price", x.price(0), -3);
                due("bid of " + least, x.bid(0, 0, 1, least), 1);
            }
        });
        says("and at least STEP more than THE BEST so far, if there is one", "one less, STEP, the most STEP", () -> {
            for (int step : new int[] {0, 1, 5, 1000}) {
                VoteAuctions x = withAccounts(0, 10000, 0, 10000);
                x.auction(0, 1, 10, step, 3);
                due("first bid, step " + step, x.bid(0, 0, 1, 10), 1);
                // With STEP 0 one less than that is below LEAST too.
                due("one less", x.bid(0, 1, 1, 10 + step - 1), step == 0 ? -2 : -3);
                due("price", x.price(0), 10);
                due("step more", x.bid(0, 1, 1, 10 + step), 1);
                due("one less than the next step", x.bid(0, 0, 1, 10 + 2 * step - 1), step == 0 ? -2 : -3);
                due("of itself, one less", x.bid(0, 1, 1, 10 + 2 * step - 1), step == 0 ? -2 : -3);
                due("of itself, step more", x.bid(0, 1, 1, 10 + 2 * step), 1);
                due("price", x.price(0), 10 + 2 * step);
            }
        });
        says("at least STEP more than THE BEST so far", "below THE BEST by STEP 0; STEP beyond the greatest price",
            () -> {
                VoteAuctions x = withAccounts(0, 1000000, 0, 1000000);
                x.auction(0, 1, 10, 0, 3);
                x.auction(0, 1, 10, 1, 3);
                x.bid(0, 0, 1, 20);
                due("bid of 19", x.bid(0, 1, 1, 19), -3);
                due("bid of 20", x.bid(0, 1, 1, 20), 1);
                dueHolds(x, 0, 1000000, 0);
                due("bid of a million", x.bid(1, 0, 1, 1000000), 1);
                due("bid of a million again", x.bid(1, 1, 1, 1000000), -3);
                due("bid of one more", x.bid(1, 1, 1, 1000001), -2);
                due("price", x.price(1), 1000000);
            });
        says("it is SET ASIDE, THE BEST before comes back", "another's, its own, and none before", () -> {
            VoteAuctions x = withAccounts(0, 100, 0, 100);
            x.auction(0, 1, 10, 0, 3);
            x.bid(0, 0, 1, 60);
            dueHolds(x, 0, 40, 60);
            dueHolds(x, 1, 100, 0);
            x.bid(0, 0, 1, 90);
            dueHolds(x, 0, 10, 90);
            x.bid(0, 1, 1, 95);
            dueHolds(x, 0, 100, 0);
            dueHolds(x, 1, 5, 95);
            due("pot()", x.pot(), 0);
        });
        says("At END THE BEST is paid: that ACCOUNT WON 1", "one below END, at it, and without a bid", () -> {
            VoteAuctions x = withAccounts(0, 100, 0, 100);
            x.auction(0, 1, 10, 0, 3);
            x.auction(0, 1, 10, 0, 3);
            x.bid(0, 0, 1, 60);
            x.bid(0, 1, 1, 70);
            x.tick(2);
            due("pot() one below", x.pot(), 0);
            due("won one below", x.won(0, 1), 0);
            x.tick(1);
            due("pot() at it", x.pot(), 70);
            due("won by the best", x.won(0, 1), 1);
            due("won by the other", x.won(0, 0), 0);
            dueHolds(x, 0, 100, 0);
            dueHolds(x, 1, 30, 0);
            due("price without a bid", x.price(1), -3);
            due("won without a bid", x.won(1, 0), 0);
        });
    }

    private void termsOfSealed() {
        says("KINDS 1, 2: MARKS of bids till SHUT", "one below, at it", () -> {
            for (int kind = 1; kind <= 2; kind++) {
                VoteAuctions x = withAccounts(0, 100, 0, 100);
                x.tick(4);
                x.auction(kind, 1, 10, 0, 3);
                x.tick(2);
                due("seal one below", x.seal(0, 0, 1), 1);
                x.tick(1);
                due("seal at it", x.seal(0, 1, 1), -3);
                due("seal in place at it", x.seal(0, 0, 2), -3);
                dueHolds(x, 1, 100, 0);
            }
        });
        says("with its first one LEAST is SET ASIDE", "the first, a second, in two auctions", () -> {
            VoteAuctions x = withAccounts(0, 100);
            x.auction(1, 1, 10, 0, 3);
            x.auction(2, 1, 20, 0, 3);
            x.seal(0, 0, 1);
            dueHolds(x, 0, 90, 10);
            x.seal(0, 0, 2);
            dueHolds(x, 0, 90, 10);
            x.seal(1, 0, 2);
            dueHolds(x, 0, 70, 30);
        });
        says("They are opened from SHUT on, till END (5 heights)", "below SHUT, at it, one below END, at END", () -> {
            for (int kind = 1; kind <= 2; kind++) {
                VoteAuctions x = withAccounts(0, 100, 0, 100, 0, 100);
                x.auction(kind, 1, 10, 0, 3);
                for (int a = 0; a < 3; a++) {
                    x.seal(0, a, x.mark(a, 20, a));
                }
                x.tick(2);
                due("unseal below SHUT", x.unseal(0, 0, 20, 0), -3);
                x.tick(1);
                due("unseal at SHUT", x.unseal(0, 0, 20, 0), 1);
                x.tick(4);
                due("unseal one below END", x.unseal(0, 1, 20, 1), 1);
                due("price one below END", x.price(0), -3);
                x.tick(1);
                due("unseal at END", x.unseal(0, 2, 20, 2), -3);
                due("price at END", x.price(0), 20);
            }
        });
        says("then the price is SET ASIDE in place of that LEAST", "LEAST, one more, all that is there", () -> {
            int[] prices = {10, 11, 100};
            for (int price : prices) {
                VoteAuctions x = withAccounts(0, 100);
                x.auction(1, 1, 10, 0, 1);
                x.seal(0, 0, x.mark(0, price, 0));
                x.tick(1);
                dueHolds(x, 0, 90, 10);
                due("unseal of " + price, x.unseal(0, 0, price, 0), 1);
                dueHolds(x, 0, 100 - price, price);
            }
        });
    }

    /** An auction at its end: accounts 0, 1, .. with 100 each, marks in this order, all with a price opened. */
    private static VoteAuctions sealedEnd(int kind, int least, int... prices) {
        VoteAuctions x = new VoteAuctions();
        for (int a = 0; a < prices.length; a++) {
            x.account(0, 100);
        }
        x.auction(kind, 1, least, 0, 1);
        for (int a = 0; a < prices.length; a++) {
            x.seal(0, a, x.mark(a, prices[a], 5));
        }
        x.tick(1);
        // Opened in the other order: when it was opened must not count.
        for (int a = prices.length - 1; a >= 0; a--) {
            x.unseal(0, a, prices[a], 5);
        }
        x.tick(5);
        return x;
    }

    private void dueWinner(VoteAuctions x, int accounts, int winner, int paid) {
        due("price", x.price(0), paid);
        due("pot()", x.pot(), paid);
        for (int a = 0; a < accounts; a++) {
            due("won by " + a, x.won(0, a), a == winner ? 1 : 0);
            dueHolds(x, a, a == winner ? 100 - paid : 100, 0);
        }
    }

    private void termsOfSealedEnds() {
        says("At END the greatest price that was opened", "by one more; the first, the last; a greater one unopened",
            () -> {
                dueWinner(sealedEnd(1, 10, 50, 51, 50), 3, 1, 51);
                dueWinner(sealedEnd(1, 10, 52, 51, 50), 3, 0, 52);
                dueWinner(sealedEnd(1, 10, 50, 51, 52), 3, 2, 52);
                VoteAuctions x = withAccounts(0, 100, 0, 100);
                x.auction(1, 1, 10, 0, 1);
                x.seal(0, 0, x.mark(0, 90, 0));
                x.seal(0, 1, x.mark(1, 20, 0));
                x.tick(1);
                x.unseal(0, 1, 20, 0);
                x.tick(5);
                due("won by the unopened one", x.won(0, 0), 0);
                due("won by the opened one", x.won(0, 1), 1);
                due("price", x.price(0), 20);
            });
        says("of several the one whose MARK was told first", "two and three alike, in both KINDS", () -> {
            dueWinner(sealedEnd(1, 10, 50, 50), 2, 0, 50);
            dueWinner(sealedEnd(2, 10, 50, 50), 2, 0, 50);
            dueWinner(sealedEnd(1, 10, 40, 50, 50, 50), 4, 1, 50);
            dueWinner(sealedEnd(2, 10, 40, 50, 50, 50), 4, 1, 50);
        });
        says("(an ACCOUNT's latest MARK counts)", "told again, it is told later", () -> {
            for (int kind = 1; kind <= 2; kind++) {
                VoteAuctions x = withAccounts(0, 100, 0, 100);
                x.auction(kind, 1, 10, 0, 1);
                x.seal(0, 0, x.mark(0, 50, 0));
                x.seal(0, 1, x.mark(1, 50, 0));
                x.seal(0, 0, x.mark(0, 50, 0));
                x.tick(1);
                x.unseal(0, 0, 50, 0);
                x.unseal(0, 1, 50, 0);
                x.tick(5);
                due("won by the one told again", x.won(0, 0), 0);
                due("won by the other", x.won(0, 1), 1);
            }
        });
        says("WON 1 and pays it (KIND 1)", "LEAST, and all that it has", () -> {
            dueWinner(sealedEnd(1, 10, 10), 1, 0, 10);
            dueWinner(sealedEnd(1, 10, 100), 1, 0, 100);
            dueWinner(sealedEnd(1, 100, 100), 1, 0, 100);
        });
        says("or the greatest of the others', if that is above LEAST, else LEAST (KIND 2)",
            "nobody else, LEAST, one above it, the same price, the second of many", () -> {
                dueWinner(sealedEnd(2, 10, 70), 1, 0, 10);
                dueWinner(sealedEnd(2, 10, 70, 10), 2, 0, 10);
                dueWinner(sealedEnd(2, 10, 70, 11), 2, 0, 11);
                dueWinner(sealedEnd(2, 10, 70, 70), 2, 0, 70);
                dueWinner(sealedEnd(2, 10, 10), 1, 0, 10);
                dueWinner(sealedEnd(2, 10, 10, 10), 2, 0, 10);
                dueWinner(sealedEnd(2, 10, 20, 70, 30, 69, 68), 5, 1, 69);
                dueWinner(sealedEnd(2, 10, 69, 70), 2, 1, 69);
            });
        says("of others it comes back", "all of it, to each of seven", () -> {
            dueWinner(sealedEnd(1, 10, 11, 12, 13, 14, 15, 16, 100, 100), 8, 6, 100);
            dueWinner(sealedEnd(2, 10, 11, 12, 13, 14, 15, 16, 17, 100), 8, 7, 17);
        });
        says("A LEAST that is still SET ASIDE is paid", "of one, of all, with a winner and without", () -> {
            for (int kind = 1; kind <= 2; kind++) {
                VoteAuctions x = withAccounts(0, 100, 0, 100, 0, 10);
                x.auction(kind, 1, 10, 0, 1);
                x.auction(kind, 1, 10, 0, 1);
                for (int a = 0; a < 2; a++) {
                    x.seal(0, a, x.mark(a, 20, 0));
                    x.seal(1, a, 7);
                }
                x.seal(1, 2, 7);
                x.tick(1);
                x.unseal(0, 0, 20, 0);
                x.tick(4);
                due("pot() one below END", x.pot(), 0);
                x.tick(1);
                int paid = kind == 1 ? 20 : 10;
                due("pot()", x.pot(), paid + 10 + 30);
                dueHolds(x, 0, 100 - paid - 10, 0);
                dueHolds(x, 1, 80, 0);
                dueHolds(x, 2, 0, 0);
                due("price with a winner", x.price(0), paid);
                due("price without", x.price(1), -3);
                for (int a = 0; a < 3; a++) {
                    due("won without", x.won(1, a), 0);
                }
            }
        });
    }

    private void termsOfFalling() {
        says("KIND 3: the PRICE is LEAST, and STEP for each height that is left till END",
            "STEP 0 and 1000, at the first and the last height", () -> {
                for (int step : new int[] {0, 1, 1000}) {
                    VoteAuctions x = withAccounts(0, 1000000);
                    x.tick(3);
                    x.auction(3, 1, 10000, step, 50);
                    for (int left = 50; left > 0; left--) {
                        due("price, " + left + " left", x.price(0), 10000 + step * left);
                        x.tick(1);
                    }
                    due("price at END", x.price(0), -3);
                }
            });
        says("the first that takes it pays it, WON 1, and it is OVER", "at the last height, at the first", () -> {
            VoteAuctions x = withAccounts(0, 60000, 0, 60000);
            x.auction(3, 1, 10000, 1000, 50);
            x.auction(3, 1, 7, 3, 2);
            due("take at the first height", x.take(0, 0), 60000);
            dueHolds(x, 0, 0, 0);
            due("won", x.won(0, 0), 1);
            due("take by another", x.take(0, 1), -3);
            due("take by itself", x.take(0, 0), -3);
            x.tick(1);
            due("take at the last height", x.take(1, 1), 10);
            due("won", x.won(1, 1), 1);
            x.tick(1);
            due("price at END", x.price(1), 10);
            dueHolds(x, 1, 59990, 0);
            due("pot()", x.pot(), 60010);
            x.tick(50);
            due("price of the first at END", x.price(0), 60000);
            due("won at END", x.won(0, 0), 1);
            due("pot() at END", x.pot(), 60010);
        });
    }

    private void termsOfMany() {
        says("KIND 4: bids for units at a price each till END", "one below, at it; no STEP", () -> {
            VoteAuctions x = withAccounts(0, 100, 0, 100);
            x.auction(4, 2, 5, 1000, 2);
            due("bid", x.bid(0, 0, 2, 50), 1);
            x.tick(1);
            due("bid one below, a lower price", x.bid(0, 1, 2, 5), 1);
            x.tick(1);
            due("bid at it", x.bid(0, 1, 2, 6), -3);
            due("price", x.price(0), 50);
        });
        says("one of an ACCOUNT (a later one takes its place)", "lower, higher, fewer, more", () -> {
            VoteAuctions x = withAccounts(0, 100);
            x.auction(4, 20, 5, 0, 2);
            int[][] bids = {{1, 100}, {20, 5}, {1, 5}, {2, 50}, {2, 50}};
            for (int[] b : bids) {
                due("bid for " + b[0] + " at " + b[1], x.bid(0, 0, b[0], b[1]), 1);
                dueHolds(x, 0, 100 - b[0] * b[1], b[0] * b[1]);
            }
            x.tick(2);
            due("won", x.won(0, 0), 2);
            due("pot()", x.pot(), 100);
        });
        says("what all its units cost is SET ASIDE", "the most units at the greatest price", () -> {
            VoteAuctions x = withAccounts(0, 1000000);
            for (int i = 0; i < 190; i++) {
                x.fund(0, 100000);
            }
            x.auction(4, 20, 5, 0, 2);
            due("bid for 20 at a million", x.bid(0, 0, 20, 1000000), 1);
            dueHolds(x, 0, 0, 20000000);
            x.tick(2);
            due("price", x.price(0), 1000000);
            due("won", x.won(0, 0), 20);
            due("pot()", x.pot(), 20000000);
        });
        says("At END those with greater prices come first", "by one more, told in any order", () -> {
            VoteAuctions x = many(5, 10, new int[][] {{0, 5, 11}, {1, 4, 12}, {2, 1, 13}});
            dueMany(x, 12, 0, 4, 1);
            VoteAuctions y = many(5, 10, new int[][] {{2, 1, 13}, {1, 4, 12}, {0, 5, 11}});
            dueMany(y, 12, 0, 4, 1);
        });
        says("of one price the one told first", "three alike; one told again is told later", () -> {
            dueMany(many(5, 10, new int[][] {{2, 2, 12}, {0, 2, 12}, {1, 2, 12}}), 12, 2, 1, 2);
            dueMany(many(5, 10, new int[][] {{0, 2, 12}, {1, 2, 12}, {2, 2, 12}, {0, 2, 12}}), 12, 1, 2, 2);
        });
        says("each gets what it wants, as long as UNITS are left", "just enough, one over, none left", () -> {
            dueMany(many(6, 10, new int[][] {{0, 1, 13}, {1, 2, 12}, {2, 3, 11}}), 11, 1, 2, 3);
            dueMany(many(7, 10, new int[][] {{0, 1, 13}, {1, 2, 12}, {2, 3, 11}}), 11, 1, 2, 3);
            dueMany(many(3, 10, new int[][] {{0, 1, 13}, {1, 2, 12}, {2, 3, 11}}), 12, 1, 2, 0);
        });
        says("each gets what it wants, as long as UNITS are left", "all eight, the eighth as the last", () -> {
            VoteAuctions x = new VoteAuctions();
            x.auction(4, 20, 1, 0, 1);
            x.auction(4, 7, 1, 0, 1);
            for (int a = 0; a < 8; a++) {
                x.account(0, 100);
                x.bid(0, a, a < 7 ? 2 : 20, 10 - a);
                x.bid(1, a, 1, 10 - a);
            }
            x.tick(1);
            for (int a = 0; a < 8; a++) {
                due("won of 20 by " + a, x.won(0, a), a < 7 ? 2 : 6);
                due("won of 7 by " + a, x.won(1, a), a < 7 ? 1 : 0);
                dueHolds(x, a, 100 - (a < 7 ? 2 : 6) * 3 - (a < 7 ? 4 : 0), 0);
            }
            due("price of 20", x.price(0), 3);
            due("price of 7", x.price(1), 4);
            due("pot()", x.pot(), 20 * 3 + 7 * 4);
        });
        says("(the last one perhaps fewer)", "one fewer, one alone; the first one", () -> {
            dueMany(many(5, 10, new int[][] {{0, 1, 13}, {1, 2, 12}, {2, 3, 11}}), 11, 1, 2, 2);
            dueMany(many(4, 10, new int[][] {{0, 1, 13}, {1, 2, 12}, {2, 3, 11}}), 11, 1, 2, 1);
            dueMany(many(1, 10, new int[][] {{0, 1, 12}, {1, 1, 13}, {2, 1, 11}}), 13, 0, 1, 0);
        });
        says("THE PRICE is that of the last one that got some", "one alone, the last at LEAST, none", () -> {
            dueMany(many(20, 10, new int[][] {{1, 1, 90}}), 90, 0, 1, 0);
            dueMany(many(20, 10, new int[][] {{1, 1, 90}, {0, 1, 10}}), 10, 1, 1, 0);
            VoteAuctions x = many(20, 10, new int[][] {});
            due("price without a bid", x.price(0), -3);
            due("pot() without a bid", x.pot(), 0);
            due("won without a bid", x.won(0, 0), 0);
        });
        says("all pay this for each unit that they WON; the rest comes back", "to the last of funds", () -> {
            VoteAuctions x = withAccounts(0, 60, 0, 50, 0, 40);
            x.auction(4, 5, 10, 0, 1);
            x.bid(0, 0, 3, 20);
            x.bid(0, 1, 5, 10);
            x.bid(0, 2, 1, 40);
            dueHolds(x, 0, 0, 60);
            dueHolds(x, 1, 0, 50);
            dueHolds(x, 2, 0, 40);
            x.tick(1);
            dueHolds(x, 0, 30, 0);
            dueHolds(x, 1, 40, 0);
            dueHolds(x, 2, 30, 0);
            due("pot()", x.pot(), 50);
        });
    }

    /** An auction of KIND 4 at its end; three accounts with 100 each, bids of account, units, price. */
    private static VoteAuctions many(int units, int least, int[][] bids) {
        VoteAuctions x = withAccounts(0, 100, 0, 100, 0, 100);
        x.auction(4, units, least, 0, 1);
        for (int[] b : bids) {
            x.bid(0, b[0], b[1], b[2]);
        }
        x.tick(1);
        return x;
    }

    private void dueMany(VoteAuctions x, int price, int... won) {
        due("price", x.price(0), price);
        int all = 0;
        for (int a = 0; a < won.length; a++) {
            due("won by " + a, x.won(0, a), won[a]);
            dueHolds(x, a, 100 - won[a] * price, 0);
            all += won[a];
        }
        due("pot()", x.pot(), all * price);
    }

    // ---- the promises

    private void auction() {
        section("Promise 20");
        says("An AUCTION of KIND 0 .. 4", "the last that is taken, the first that is refused", () -> {
            for (int kind = -1; kind <= 5; kind++) {
                due("auction of kind " + kind, new VoteAuctions().auction(kind, 1, 1, 0, 1),
                    kind < 0 || kind > 4 ? -2 : 0);
            }
            due("auction of kind MIN", new VoteAuctions().auction(Integer.MIN_VALUE, 1, 1, 0, 1), -2);
            due("auction of kind MAX", new VoteAuctions().auction(Integer.MAX_VALUE, 1, 1, 0, 1), -2);
        });
        says("UNITS (KIND 4: 1 .. 20; others 1)", "the last that is taken, the first that is refused", () -> {
            for (int kind = 0; kind < 5; kind++) {
                for (int units : new int[] {-1, 0, 1, 2, 20, 21, Integer.MIN_VALUE, Integer.MAX_VALUE}) {
                    boolean taken = units == 1 || (kind == 4 && units > 1 && units <= 20);
                    due("auction of kind " + kind + ", " + units + " units",
                        new VoteAuctions().auction(kind, units, 1, 0, 1), taken ? 0 : -2);
                }
            }
        });
        says("LEAST 1 .. 10000", "the last that is taken, the first that is refused", () -> dueRange(2, 1, 10000));
        says("STEP 0 .. 1000", "the last that is taken, the first that is refused", () -> dueRange(3, 0, 1000));
        says("END (KINDS 1, 2: SHUT) so many heights from now (1 .. 50)",
            "the last that is taken, the first that is refused", () -> dueRange(4, 1, 50));
        says("END (KINDS 1, 2: SHUT) so many heights from now", "1 and 50, from a height above 0", () -> {
            for (int heights : new int[] {1, 50}) {
                VoteAuctions x = withAccounts(0, 1000);
                x.tick(9);
                for (int kind = 0; kind < 5; kind++) {
                    x.auction(kind, 1, 1, 0, heights);
                }
                x.tick(heights - 1);
                due("bid one below", x.bid(0, 0, 1, 1), 1);
                due("seal one below", x.seal(1, 0, x.mark(0, 1, 1)), 1);
                due("seal one below", x.seal(2, 0, x.mark(0, 1, 1)), 1);
                due("price one below", x.price(3), 1);
                due("bid one below", x.bid(4, 0, 1, 1), 1);
                due("unseal one below", x.unseal(1, 0, 1, 1), -3);
                x.tick(1);
                due("bid at it", x.bid(0, 0, 1, 2), -3);
                due("seal at it", x.seal(1, 0, 1), -3);
                due("seal at it", x.seal(2, 0, 1), -3);
                due("unseal at it", x.unseal(1, 0, 1, 1), 1);
                due("unseal at it", x.unseal(2, 0, 1, 1), 1);
                due("price at it", x.price(3), -3);
                due("bid at it", x.bid(4, 0, 1, 2), -3);
            }
        });
        says("its number", "a refused one takes none", () -> {
            VoteAuctions x = new VoteAuctions();
            due("auction", x.auction(0, 1, 1, 0, 1), 0);
            due("auction of 2 units", x.auction(0, 2, 1, 0, 1), -2);
            due("auction", x.auction(0, 1, 1, 0, 1), 1);
        });
        says("-2, -4", "outside its bounds where there is no room", () -> {
            VoteAuctions x = new VoteAuctions();
            for (int i = 0; i < 6; i++) {
                x.auction(0, 1, 1, 0, 1);
            }
            due("auction of kind 5", x.auction(5, 1, 1, 0, 1), -2);
            due("auction of 2 units", x.auction(0, 2, 1, 0, 1), -2);
            due("auction of least 0", x.auction(0, 1, 0, 0, 1), -2);
            due("auction of step -1", x.auction(0, 1, 1, -1, 1), -2);
            due("auction of 0 heights", x.auction(0, 1, 1, 0, 0), -2);
            due("auction", x.auction(0, 1, 1, 0, 1), -4);
            x.tick(50);
            due("auction, the others over", x.auction(0, 1, 1, 0, 1), -4);
        });
    }

    private void dueRange(int place, int low, int high) {
        for (int kind = 0; kind < 5; kind++) {
            for (int value : new int[] {low - 1, low, high, high + 1, Integer.MIN_VALUE, Integer.MAX_VALUE}) {
                int[] with = {kind, 1, 1, 0, 1};
                with[place] = value;
                VoteAuctions x = withAccounts(0, 0);
                int want = value < low || value > high ? -2 : 0;
                due("auction of kind " + kind + ", " + value, x.auction(with[0], with[1], with[2], with[3], with[4]),
                    want);
                due("won", x.won(0, 0), want == 0 ? 0 : -1);
            }
        }
    }

    /** One auction of each KIND, with these bounds, and two accounts. */
    private static VoteAuctions eachKind(int funds, int least, int step) {
        VoteAuctions x = withAccounts(0, funds, 0, funds);
        for (int kind = 0; kind < 5; kind++) {
            x.auction(kind, kind == 4 ? 20 : 1, least, step, 3);
        }
        return x;
    }

    private void bid() {
        section("Promise 21");
        says("A bid of an ACCOUNT in an AUCTION of KIND 0 or 4: 1", "both, and none of the others", () -> {
            VoteAuctions x = eachKind(100, 10, 0);
            for (int kind = 0; kind < 5; kind++) {
                due("bid in kind " + kind, x.bid(kind, 0, 1, 10), kind == 0 || kind == 4 ? 1 : -3);
            }
            dueHolds(x, 0, 80, 20);
        });
        says("-1 (either)", "no auction, no account, both, outside bounds and over too", () -> {
            VoteAuctions x = eachKind(100, 10, 0);
            for (int no : NOT_THERE) {
                due("bid in " + no, x.bid(no, 0, 0, 0), -1);
                due("bid of " + no, x.bid(0, no, 0, 0), -1);
                due("bid in " + no + " of it", x.bid(no, no, 1, 10), -1);
            }
            x.tick(3);
            due("bid of 2 when it is over", x.bid(0, 2, 1, 10), -1);
        });
        says("-2 units are not 1 .. UNITS", "the last that is taken, the first that is refused", () -> {
            VoteAuctions x = eachKind(1000, 10, 0);
            for (int bad : new int[] {0, 2, -1, Integer.MIN_VALUE, Integer.MAX_VALUE}) {
                due("bid for " + bad + " of 1", x.bid(0, 0, bad, 10), -2);
            }
            for (int bad : new int[] {0, 21, -1, Integer.MIN_VALUE, Integer.MAX_VALUE}) {
                due("bid for " + bad + " of 20", x.bid(4, 0, bad, 10), -2);
            }
            dueHolds(x, 0, 1000, 0);
            due("bid for 20 of 20", x.bid(4, 0, 20, 10), 1);
            due("bid for 1 of 20", x.bid(4, 0, 1, 10), 1);
            due("bid for 1 of 1", x.bid(0, 0, 1, 10), 1);
        });
        says("the price not LEAST .. 1000000", "the last that is taken, the first that is refused", () -> {
            VoteAuctions x = eachKind(1000000, 10, 0);
            for (int kind : new int[] {0, 4}) {
                for (int bad : new int[] {9, 0, -1, 1000001, Integer.MIN_VALUE, Integer.MAX_VALUE}) {
                    due("bid at " + bad, x.bid(kind, 0, 1, bad), -2);
                }
                due("bid at 10", x.bid(kind, kind / 4, 1, 10), 1);
                due("bid at 1000000", x.bid(kind, kind / 4, 1, 1000000), 1);
                dueHolds(x, kind / 4, 0, 1000000);
            }
        });
        says("-2 units are not 1 .. UNITS, the price not LEAST .. 1000000", "before another KIND, OVER and less FUNDS",
            () -> {
                VoteAuctions x = eachKind(0, 10, 0);
                for (int a = 0; a < 5; a++) {
                    due("bid for 0 units", x.bid(a, 0, 0, 10), -2);
                    due("bid at 9", x.bid(a, 0, 1, 9), -2);
                    due("bid at 1000001", x.bid(a, 0, 1, 1000001), -2);
                }
                x.tick(50);
                due("bid for 0 units", x.bid(0, 0, 0, 10), -2);
                due("bid at 9", x.bid(4, 0, 1, 9), -2);
            });
        says("-3 another KIND, it is OVER", "one below END, at it", () -> {
            VoteAuctions x = eachKind(100, 10, 0);
            x.tick(2);
            due("bid one below", x.bid(0, 0, 1, 10), 1);
            due("bid one below", x.bid(4, 0, 1, 10), 1);
            x.tick(1);
            for (int a = 0; a < 5; a++) {
                due("bid at it", x.bid(a, 0, 1, 20), -3);
            }
            dueHolds(x, 0, 80, 0);
        });
        says("less than STEP above THE BEST", "one less, STEP; in KIND 4 there is none", () -> {
            VoteAuctions x = eachKind(100, 10, 5);
            x.bid(0, 0, 1, 20);
            due("bid at 24", x.bid(0, 1, 1, 24), -3);
            dueHolds(x, 1, 100, 0);
            due("price", x.price(0), 20);
            due("bid at 25", x.bid(0, 1, 1, 25), 1);
            x.bid(4, 0, 1, 20);
            due("bid for units at 10", x.bid(4, 1, 1, 10), 1);
            due("bid of itself at 10", x.bid(4, 0, 1, 10), 1);
        });
        says("or FUNDS (and what is SET ASIDE for its own bid there) are less than it costs",
            "as much, one more; what is set aside elsewhere is not there", () -> {
                VoteAuctions x = withAccounts(0, 100, 0, 100, 0, 100);
                x.auction(0, 1, 10, 0, 3);
                x.auction(4, 20, 10, 0, 3);
                x.auction(0, 1, 10, 0, 3);
                due("bid at 101", x.bid(0, 0, 1, 101), -3);
                due("bid at 100", x.bid(0, 0, 1, 100), 1);
                due("bid at 101 with its own", x.bid(0, 0, 1, 101), -3);
                due("bid at 100 with its own", x.bid(0, 0, 1, 100), 1);
                due("bid at 10 elsewhere", x.bid(2, 0, 1, 10), -3);
                dueHolds(x, 0, 0, 100);
                due("bid for 10 at 11", x.bid(1, 1, 10, 11), -3);
                due("bid for 10 at 10", x.bid(1, 1, 10, 10), 1);
                due("bid for 11 at 10 with its own", x.bid(1, 1, 11, 10), -3);
                due("bid for 5 at 20 with its own", x.bid(1, 1, 5, 20), 1);
                due("bid for 5 at 21 with its own", x.bid(1, 1, 5, 21), -3);
                dueHolds(x, 1, 0, 100);
                x.fund(0, 1);
                due("bid at 101 with its own and one more", x.bid(0, 0, 1, 101), 1);
                x.bid(2, 2, 1, 10);
                due("what another has set aside is not its own", x.bid(2, 0, 1, 11), -3);
                dueHolds(x, 0, 0, 101);
                dueHolds(x, 2, 90, 10);
            });
    }

    private void seal() {
        section("Promise 22");
        says("A MARK of an ACCOUNT in an AUCTION of KIND 1 or 2 (in place of one before): 1",
            "both; the one before is opened no more", () -> {
                VoteAuctions x = eachKind(100, 10, 0);
                for (int a = 1; a <= 2; a++) {
                    due("seal", x.seal(a, 0, x.mark(0, 20, 1)), 1);
                    due("seal in place of it", x.seal(a, 0, x.mark(0, 30, 1)), 1);
                }
                x.tick(3);
                for (int a = 1; a <= 2; a++) {
                    due("unseal of the one before", x.unseal(a, 0, 20, 1), -3);
                    due("unseal", x.unseal(a, 0, 30, 1), 1);
                }
                dueHolds(x, 0, 40, 60);
            });
        says("A MARK of an ACCOUNT", "any 64 bits; the mark 0 is one", () -> {
            VoteAuctions x = eachKind(100, 10, 0);
            for (long mark : new long[] {0, -1, Long.MAX_VALUE, Long.MIN_VALUE, 0}) {
                due("seal of " + mark, x.seal(1, 0, mark), 1);
                dueHolds(x, 0, 90, 10);
            }
            x.tick(8);
            due("pot()", x.pot(), 10);
        });
        says("-1 (either)", "no auction, no account, both; in another KIND and over too", () -> {
            VoteAuctions x = eachKind(100, 10, 0);
            for (int no : NOT_THERE) {
                due("seal in " + no, x.seal(no, 0, 1), -1);
                due("seal of " + no, x.seal(1, no, 1), -1);
                due("seal in " + no + " of it", x.seal(no, no, 1), -1);
                due("seal of " + no + " in kind 0", x.seal(0, no, 1), -1);
            }
            x.tick(50);
            due("seal of 2 when it is over", x.seal(1, 2, 1), -1);
        });
        says("-3 another KIND, HEIGHT is SHUT or more", "each KIND, one below, at it, above it, at END", () -> {
            VoteAuctions x = eachKind(100, 10, 0);
            for (int a : new int[] {0, 3, 4}) {
                due("seal in kind " + a, x.seal(a, 0, 1), -3);
            }
            x.tick(2);
            due("seal one below", x.seal(1, 0, x.mark(0, 20, 1)), 1);
            for (int i = 0; i < 6; i++) {
                x.tick(1);
                due("seal at it and above", x.seal(2, 0, 1), -3);
                due("seal in place of one, there", x.seal(1, 0, 1), -3);
            }
            dueHolds(x, 0, 90, 0);
        });
        says("or FUNDS are less than LEAST (with its first one there)", "one less, as much; a second one with none",
            () -> {
                VoteAuctions x = withAccounts(0, 9, 0, 10);
                x.auction(1, 1, 10, 0, 3);
                x.auction(2, 1, 10, 0, 3);
                due("seal with 9", x.seal(0, 0, 1), -3);
                dueHolds(x, 0, 9, 0);
                due("seal with 10", x.seal(0, 1, 1), 1);
                dueHolds(x, 1, 0, 10);
                due("a second one with 0", x.seal(0, 1, 2), 1);
                due("its first one elsewhere with 0", x.seal(1, 1, 2), -3);
                x.fund(0, 1);
                due("seal with one more", x.seal(0, 0, 1), 1);
            });
    }

    private void unseal() {
        section("Promise 23");
        says("It is opened: 1", "salts at the edges, the greatest price", () -> {
            for (int salt : new int[] {0, -1, Integer.MAX_VALUE, Integer.MIN_VALUE}) {
                VoteAuctions x = withAccounts(0, 0, 0, 1000000);
                x.auction(1, 1, 10, 0, 1);
                x.seal(0, 1, x.mark(1, 1000000, salt));
                x.tick(1);
                due("unseal, one salt more", x.unseal(0, 1, 1000000, salt + 1), -3);
                due("unseal, salt " + salt, x.unseal(0, 1, 1000000, salt), 1);
                dueHolds(x, 1, 0, 1000000);
            }
        });
        says("-1 (either)", "no auction, no account, both, outside bounds too", () -> {
            VoteAuctions x = eachKind(100, 10, 0);
            x.tick(3);
            for (int no : NOT_THERE) {
                due("unseal in " + no, x.unseal(no, 0, 9, 1), -1);
                due("unseal of " + no, x.unseal(1, no, 9, 1), -1);
                due("unseal in " + no + " of it", x.unseal(no, no, 10, 1), -1);
            }
        });
        says("-2 the price is not LEAST .. 1000000", "beside each end, with its mark, before each state", () -> {
            for (int bad : new int[] {9, 1000001, 0, -1, Integer.MIN_VALUE, Integer.MAX_VALUE}) {
                VoteAuctions x = eachKind(1000000, 10, 0);
                x.seal(1, 0, x.mark(0, bad, 1));
                for (int a = 0; a < 5; a++) {
                    due("unseal at " + bad + ", any kind, below SHUT", x.unseal(a, 0, bad, 1), -2);
                }
                x.tick(3);
                due("unseal at " + bad, x.unseal(1, 0, bad, 1), -2);
                dueHolds(x, 0, 999990, 10);
                x.tick(5);
                due("unseal at " + bad + " when it is over", x.unseal(1, 0, bad, 1), -2);
            }
            VoteAuctions x = withAccounts(0, 1000000, 0, 10);
            x.auction(1, 1, 10, 0, 1);
            x.seal(0, 0, x.mark(0, 1000000, 1));
            x.seal(0, 1, x.mark(1, 10, 1));
            x.tick(1);
            due("unseal at 1000000", x.unseal(0, 0, 1000000, 1), 1);
            due("unseal at 10", x.unseal(0, 1, 10, 1), 1);
        });
        says("-3 another KIND, HEIGHT is below SHUT, or END or more", "each KIND; each height", () -> {
            for (int height = 0; height < 10; height++) {
                VoteAuctions x = eachKind(100, 10, 0);
                x.seal(1, 0, x.mark(0, 20, 1));
                x.seal(2, 0, x.mark(0, 20, 1));
                x.tick(height);
                boolean isOpen = height >= 3 && height < 8;
                for (int kind = 0; kind < 5; kind++) {
                    boolean isSealed = kind == 1 || kind == 2;
                    due("unseal in kind " + kind + " at " + height, x.unseal(kind, 0, 20, 1),
                        isOpen && isSealed ? 1 : -3);
                }
            }
        });
        says("there is no MARK, it was opened", "nobody told one; the same again", () -> {
            VoteAuctions x = withAccounts(0, 100, 0, 100);
            x.auction(1, 1, 10, 0, 1);
            x.seal(0, 1, x.mark(1, 20, 1));
            x.tick(1);
            due("unseal without a mark", x.unseal(0, 0, 20, 1), -3);
            due("unseal", x.unseal(0, 1, 20, 1), 1);
            due("unseal again", x.unseal(0, 1, 20, 1), -3);
            dueHolds(x, 0, 100, 0);
            dueHolds(x, 1, 80, 20);
        });
        says("it is not THE MARK of account, price, salt", "each of the three, another's mark", () -> {
            VoteAuctions x = withAccounts(0, 100, 0, 100);
            x.auction(1, 1, 10, 0, 1);
            x.seal(0, 0, x.mark(0, 20, 1));
            x.seal(0, 1, x.mark(0, 20, 1));
            x.tick(1);
            due("unseal of another's mark", x.unseal(0, 1, 20, 1), -3);
            due("unseal, another price", x.unseal(0, 0, 21, 1), -3);
            due("unseal, another salt", x.unseal(0, 0, 20, 2), -3);
            due("unseal after all these", x.unseal(0, 0, 20, 1), 1);
        });
        says("or FUNDS and LEAST are less than the price", "as much, one more, and after it got more", () -> {
            VoteAuctions x = withAccounts(0, 100, 0, 100, 0, 10);
            x.auction(2, 1, 10, 0, 1);
            x.seal(0, 0, x.mark(0, 100, 1));
            x.seal(0, 1, x.mark(1, 101, 1));
            x.seal(0, 2, x.mark(2, 10, 1));
            x.tick(1);
            due("unseal at 100 of 100", x.unseal(0, 0, 100, 1), 1);
            due("unseal at 101 of 100", x.unseal(0, 1, 101, 1), -3);
            dueHolds(x, 1, 90, 10);
            due("unseal at LEAST with no funds", x.unseal(0, 2, 10, 1), 1);
            dueHolds(x, 2, 0, 10);
            x.fund(1, 1);
            due("unseal at 101 of 101", x.unseal(0, 1, 101, 1), 1);
            dueHolds(x, 1, 0, 101);
        });
    }

    private void take() {
        section("Promise 24");
        says("An ACCOUNT takes what an AUCTION of KIND 3 has: what it pays", "the least and the most that there is",
            () -> {
                VoteAuctions x = withAccounts(0, 100000);
                x.auction(3, 1, 1, 0, 1);
                x.auction(3, 1, 10000, 1000, 50);
                due("take for 1", x.take(0, 0), 1);
                due("take for 60000", x.take(1, 0), 60000);
                dueHolds(x, 0, 39999, 0);
                due("pot()", x.pot(), 60001);
            });
        says("-1 (either)", "no auction, no account, both; in another KIND and over too", () -> {
            VoteAuctions x = eachKind(100, 10, 0);
            for (int no : NOT_THERE) {
                due("take in " + no, x.take(no, 0), -1);
                due("take of " + no, x.take(3, no), -1);
                due("take in " + no + " of it", x.take(no, no), -1);
                due("take of " + no + " in kind 0", x.take(0, no), -1);
            }
            x.tick(50);
            due("take of 2 when it is over", x.take(3, 2), -1);
        });
        says("-3 another KIND, it is OVER", "each KIND; one below END, at it; when it was taken", () -> {
            VoteAuctions x = eachKind(100, 10, 1);
            for (int a : new int[] {0, 1, 2, 4}) {
                due("take in kind " + a, x.take(a, 0), -3);
            }
            x.auction(3, 1, 10, 0, 3);
            x.tick(2);
            due("take one below", x.take(3, 0), 11);
            due("take when it was taken", x.take(3, 1), -3);
            x.tick(1);
            due("take at it", x.take(5, 0), -3);
            due("take at it when it was taken", x.take(3, 1), -3);
            dueHolds(x, 0, 89, 0);
            dueHolds(x, 1, 100, 0);
        });
        says("or FUNDS are less", "one less, as much as it falls", () -> {
            VoteAuctions x = withAccounts(0, 14);
            x.auction(3, 1, 10, 1, 5);
            due("take for 15 of 14", x.take(0, 0), -3);
            dueHolds(x, 0, 14, 0);
            x.tick(1);
            due("take for 14 of 14", x.take(0, 0), 14);
            dueHolds(x, 0, 0, 0);
        });
    }

    private void price() {
        section("Promise 25");
        says("KIND 0: THE BEST", "none, the first, the next, at END and later", () -> {
            VoteAuctions x = eachKind(100, 10, 0);
            due("price without a bid", x.price(0), -3);
            x.bid(0, 0, 1, 10);
            due("price of the first", x.price(0), 10);
            x.bid(0, 1, 1, 30);
            due("price of the next", x.price(0), 30);
            x.tick(3);
            due("price at END", x.price(0), 30);
            x.tick(50);
            due("price later", x.price(0), 30);
        });
        says("1, 2: what was paid for what was WON", "none, one, two opened", () -> {
            due("price, kind 1, one", sealedEnd(1, 10, 40).price(0), 40);
            due("price, kind 2, one", sealedEnd(2, 10, 40).price(0), 10);
            due("price, kind 1, two", sealedEnd(1, 10, 30, 40).price(0), 40);
            due("price, kind 2, two", sealedEnd(2, 10, 30, 40).price(0), 30);
            due("price, kind 1, none", sealedEnd(1, 10).price(0), -3);
            due("price, kind 2, none", sealedEnd(2, 10).price(0), -3);
        });
        says("3: the PRICE now, or what was paid", "what was paid falls no more", () -> {
            VoteAuctions x = eachKind(100, 10, 5);
            due("price now", x.price(3), 25);
            x.tick(1);
            due("price now", x.price(3), 20);
            x.take(3, 0);
            due("price paid", x.price(3), 20);
            x.tick(1);
            due("price paid, later", x.price(3), 20);
            x.tick(50);
            due("price paid, at END and later", x.price(3), 20);
        });
        says("4: THE PRICE", "at END, and later", () -> {
            VoteAuctions x = many(3, 10, new int[][] {{0, 1, 30}, {1, 1, 20}});
            due("price at END", x.price(0), 20);
            x.tick(50);
            due("price later", x.price(0), 20);
        });
        says("-1, -3 there is none (KINDS 1, 2, 4: before END, too; 3: OVER, and nobody took it)",
            "no auction; one below END, at it, with bids and without", () -> {
                VoteAuctions x = eachKind(1000, 10, 0);
                for (int no : NOT_THERE) {
                    due("price of " + no, x.price(no), -1);
                }
                x.bid(4, 0, 1, 20);
                x.seal(1, 0, x.mark(0, 20, 0));
                x.seal(2, 0, x.mark(0, 20, 0));
                due("price, kind 1, sealed", x.price(1), -3);
                x.tick(2);
                due("price, kind 4, one below", x.price(4), -3);
                due("price, kind 3, one below", x.price(3), 10);
                x.tick(1);
                due("price, kind 4, at END", x.price(4), 20);
                due("price, kind 3, at END", x.price(3), -3);
                due("price, kind 0, at END without a bid", x.price(0), -3);
                x.unseal(1, 0, 20, 0);
                x.unseal(2, 0, 20, 0);
                x.tick(4);
                due("price, kind 1, one below", x.price(1), -3);
                due("price, kind 2, one below", x.price(2), -3);
                x.tick(1);
                due("price, kind 1, at END", x.price(1), 20);
                due("price, kind 2, at END", x.price(2), 10);
            });
    }

    private void won() {
        section("Promise 26");
        says("How many units an ACCOUNT WON", "0, 1 and 20; before END; who came later", () -> {
            VoteAuctions x = withAccounts(0, 1000, 0, 1000);
            x.auction(4, 20, 1, 0, 1);
            x.auction(0, 1, 1, 0, 1);
            x.bid(0, 0, 20, 5);
            x.bid(0, 1, 20, 4);
            x.bid(1, 1, 1, 5);
            due("won before END", x.won(0, 0), 0);
            due("won before END", x.won(1, 1), 0);
            x.tick(1);
            due("won all", x.won(0, 0), 20);
            due("won none", x.won(0, 1), 0);
            due("won one", x.won(1, 1), 1);
            due("won none", x.won(1, 0), 0);
            due("account", x.account(0, 0), 2);
            due("won by who came later", x.won(0, 2), 0);
        });
        says("-1 (either)", "no auction, no account, both", () -> {
            VoteAuctions x = eachKind(100, 10, 0);
            for (int no : NOT_THERE) {
                due("won in " + no, x.won(no, 0), -1);
                due("won by " + no, x.won(0, no), -1);
                due("won in " + no + " by it", x.won(no, no), -1);
            }
            due("won by the first that is not there", x.won(0, 2), -1);
            due("won by the last that is there", x.won(4, 1), 0);
        });
    }

    public static void main(String[] args) throws IOException {
        AuctionBoundaryTests tests = new AuctionBoundaryTests();
        tests.termsOfAuctions();
        tests.auction();
        tests.bid();
        tests.seal();
        tests.unseal();
        tests.take();
        tests.price();
        tests.won();
        tests.end();
    }
}
