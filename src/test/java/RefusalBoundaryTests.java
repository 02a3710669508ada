import java.io.IOException;
import java.util.ArrayList;
import java.util.List;

/**
 * Boundary tests of what the document says of refusals: what each refused call answers, of several
 * refusals the one that the call names first, and that it changes nothing. One long run of calls
 * is made twice, with the refused call put in at its place and without it: all answers before and
 * after it must be the same.
 */
public final class RefusalBoundaryTests extends Boundaries {
    private static final int CALLS_OF_AN_OBJECT = 512;
    private static final int[] NO_ACCOUNTS = {5, 8, -1, Integer.MIN_VALUE, Integer.MAX_VALUE};
    private static final int[] NO_QUESTIONS = {4, 6, -1, Integer.MIN_VALUE, Integer.MAX_VALUE};
    private static final int[] NO_AUCTIONS = {5, 6, -1, Integer.MIN_VALUE, Integer.MAX_VALUE};

    /** Where in the run a refused call is put in. */
    private enum Place { NOTHING_THERE, OPEN, LAST_HEIGHT, SHUT, OPENED, ENDED, OVER, FULL }

    private interface Call {
        long on(VoteAuctions x);
    }

    private RefusalBoundaryTests() throws IOException {
    }

    /** The run: its answers, and the call that is put in. */
    private final class Run {
        private final VoteAuctions x = new VoteAuctions();
        private final List<Long> answers = new ArrayList<>();
        private final Place place;
        private final Call call;
        private long answer;

        Run(Place place, Call call) {
            this.place = place;
            this.call = call;
            play();
        }

        private void note(long... given) {
            for (long a : given) {
                answers.add(a);
            }
        }

        private void at(Place here) {
            if (here == place) {
                answer = call.on(x);
            }
        }

        private void play() {
            at(Place.NOTHING_THERE);
            makeThem();
            at(Place.OPEN);
            look();
            note(x.tick(3), x.vote(0, 4, 1), x.bid(4, 4, 1, 10), x.bid(0, 1, 1, 25));
            at(Place.LAST_HEIGHT);
            note(x.tick(1));
            at(Place.SHUT);
            look();
            open();
            at(Place.OPENED);
            note(x.tick(3));
            at(Place.ENDED);
            look();
            note(x.run(0), x.take(3, 4), x.tick(2));
            at(Place.OVER);
            look();
            note(x.run(2), x.run(3), x.run(1));
            fill();
            at(Place.FULL);
            look();
            note(x.account(1, 1), x.question(0, 2, 1, 0, 0), x.auction(0, 1, 1, 0, 1));
        }

        private void makeThem() {
            note(x.account(30, 500), x.account(20, 400), x.account(50, 300), x.account(0, 0), x.account(10, 1000));
            note(x.tick(3));
            // SHUT is 7; END is 7 of the first two, 10 of the hidden ones
            note(x.question(0, 3, 4, 0, 50), x.question(2, 4, 4, 0, 0), x.question(3, 2, 4, 3, 20),
                x.question(1, 3, 4, 3, 0));
            note(x.call(0, 3, 5, 2), x.call(1, 3, 7, 0), x.call(2, 3, 11, 1));
            note(x.speak(1, 2), x.speak(4, 1));
            note(x.vote(0, 0, 0), x.vote(0, 2, 0));
            note(x.vote(1, 0, 1 + 8 * 2), x.vote(1, 1, 2), x.vote(1, 2, 3 + 8 * 2), x.vote(1, 4, 4 + 8));
            note(x.hide(2, 0, x.mark(0, 3 + 32 * 2, 11)), x.hide(2, 1, x.mark(1, 4, 12)));
            note(x.hide(3, 2, x.mark(2, 5, 13)), x.hide(3, 4, x.mark(4, 1, 14)));
            // SHUT or END is 7, of the falling one 13; END of the hidden ones is 12
            note(x.auction(0, 1, 10, 5, 4), x.auction(1, 1, 10, 5, 4), x.auction(2, 1, 10, 5, 4),
                x.auction(3, 1, 10, 5, 10), x.auction(4, 5, 3, 5, 4));
            note(x.bid(0, 0, 1, 20));
            note(x.seal(1, 0, x.mark(0, 60, 1)), x.seal(1, 1, x.mark(1, 60, 2)), x.seal(1, 4, 77));
            note(x.seal(2, 1, x.mark(1, 30, 3)), x.seal(2, 2, x.mark(2, 40, 4)));
            note(x.bid(4, 0, 3, 10), x.bid(4, 1, 4, 10), x.bid(4, 2, 2, 12));
        }

        private void open() {
            note(x.reveal(2, 0, 3 + 32 * 2, 11), x.reveal(2, 1, 4, 12), x.reveal(3, 2, 5, 13));
            note(x.unseal(1, 1, 60, 2), x.unseal(1, 0, 60, 1), x.unseal(2, 2, 40, 4));
        }

        private void fill() {
            for (int i = 0; i < 3; i++) {
                note(x.account(7, 7), x.speak(5 + i, i));
            }
            for (int i = 0; i < 2; i++) {
                note(x.question(0, 2, 1, 0, 0), x.vote(4 + i, 5, i));
            }
            note(x.auction(0, 1, 1, 0, 1), x.bid(5, 5, 1, 3));
        }

        /** What can be asked without changing anything; speakers, marks and calls show in what comes later. */
        private void look() {
            note(x.tick(0), x.pot());
            for (int a = 0; a < 5; a++) {
                note(x.holds(a, 0), x.holds(a, 1), x.holds(a, 2));
            }
            for (int q = 0; q < 4; q++) {
                note(x.count(q, 0), x.count(q, 1), x.count(q, 2), x.winner(q), x.passed(q));
            }
            note(x.fallen(1, 0), x.fallen(1, 1), x.fallen(1, 2));
            for (int s = 0; s < 5; s++) {
                note(x.price(s));
                for (int a = 0; a < 5; a++) {
                    note(x.won(s, a));
                }
            }
        }
    }

    private List<Long> untouched = new ArrayList<>();

    private void refused(Place place, String name, int want, Call call) {
        Run run = new Run(place, call);
        due(name + " at " + place, run.answer, want);
        if (!run.answers.equals(untouched)) {
            fail(name + " at " + place + " changed what later calls answer");
        }
    }

    // ---- the run itself: were its calls refused, it would show little

    private void theRun() {
        says("REFUSALS are answers below 0, and change nothing", "the run that the tests below are put into", () -> {
            Run plain = new Run(Place.OPEN, x -> 0);
            untouched = plain.answers;
            // Beside what is noted there are the marks that are made, the call that is put in and pot().
            if (untouched.size() + 10 > CALLS_OF_AN_OBJECT) {
                fail("the run has too many calls: " + untouched.size());
            }
            // the open bid, five units at 10, the take, both that were hidden with what nobody opened
            int paid = 25 + 5 * 10 + 25 + (60 + 10) + (10 + 10);
            due("pot()", plain.x.pot(), paid - 5 - 11);
        });
        says("and change nothing", "a call that is taken does change what the run answers", () -> {
            Call[] taken = {x -> x.account(1, 1), x -> x.weigh(0, 31), x -> x.fund(0, 1), x -> x.speak(0, 2),
                x -> x.tick(1), x -> x.question(0, 2, 1, 0, 0), x -> x.call(0, 3, 6, 2), x -> x.vote(0, 0, 1),
                x -> x.hide(2, 0, 1), x -> x.auction(0, 1, 1, 0, 1), x -> x.bid(4, 0, 3, 11),
                x -> x.seal(1, 0, 1), x -> x.take(3, 0)};
            for (int i = 0; i < taken.length; i++) {
                Run run = new Run(Place.OPEN, taken[i]);
                if (run.answer < 0 || run.answers.equals(untouched)) {
                    fail("the run does not see taken call " + i);
                }
            }
            for (Call opening : new Call[] {x -> x.reveal(3, 4, 1, 14), x -> x.unseal(2, 1, 30, 3)}) {
                Run run = new Run(Place.SHUT, opening);
                if (run.answer != 1 || run.answers.equals(untouched)) {
                    fail("the run does not see an opened mark");
                }
            }
        });
    }

    // ---- each refusal

    private void noSuchAccount() {
        says("-1 there is no such ACCOUNT", "each call that names one, before all that it names later", () -> {
            for (int a : NO_ACCOUNTS) {
                for (Place place : new Place[] {Place.OPEN, Place.SHUT, Place.OVER}) {
                    refused(place, "weigh of " + a, -1, x -> x.weigh(a, 1001));
                    refused(place, "fund of " + a, -1, x -> x.fund(a, -1));
                    refused(place, "speak of " + a, -1, x -> x.speak(a, 0));
                    refused(place, "speak for 0 of " + a, -1, x -> x.speak(0, a));
                    refused(place, "holds of " + a, -1, x -> x.holds(a, 3));
                    refused(place, "call for " + a, -1, x -> x.call(0, a, -1, 51));
                    refused(place, "vote of " + a, -1, x -> x.vote(0, a, 99));
                    refused(place, "hide of " + a, -1, x -> x.hide(0, a, 1));
                    refused(place, "reveal of " + a, -1, x -> x.reveal(2, a, -1, 0));
                    refused(place, "bid of " + a, -1, x -> x.bid(3, a, 0, 0));
                    refused(place, "seal of " + a, -1, x -> x.seal(0, a, 1));
                    refused(place, "unseal of " + a, -1, x -> x.unseal(1, a, 0, 0));
                    refused(place, "take of " + a, -1, x -> x.take(0, a));
                    refused(place, "won by " + a, -1, x -> x.won(0, a));
                }
            }
        });
    }

    private void noSuchQuestion() {
        says("QUESTION, AUCTION, CHOICE, ROUND", "each call that names a QUESTION, before all that it names later",
            () -> {
                for (int q : NO_QUESTIONS) {
                    for (Place place : new Place[] {Place.OPEN, Place.SHUT, Place.OVER}) {
                        refused(place, "call of " + q, -1, x -> x.call(q, 0, -1, 51));
                        refused(place, "vote in " + q, -1, x -> x.vote(q, 0, 99));
                        refused(place, "hide in " + q, -1, x -> x.hide(q, 0, 1));
                        refused(place, "reveal in " + q, -1, x -> x.reveal(q, 0, -1, 0));
                        refused(place, "count in " + q, -1, x -> x.count(q, 0));
                        refused(place, "fallen in " + q, -1, x -> x.fallen(q, 0));
                        refused(place, "winner of " + q, -1, x -> x.winner(q));
                        refused(place, "passed of " + q, -1, x -> x.passed(q));
                        refused(place, "run of " + q, -1, x -> x.run(q));
                    }
                }
            });
        says("AUCTION, CHOICE, ROUND", "each call that names an AUCTION, before all that it names later", () -> {
            for (int s : NO_AUCTIONS) {
                for (Place place : new Place[] {Place.OPEN, Place.SHUT, Place.OVER}) {
                    refused(place, "bid in " + s, -1, x -> x.bid(s, 0, 0, 0));
                    refused(place, "seal in " + s, -1, x -> x.seal(s, 0, 1));
                    refused(place, "unseal in " + s, -1, x -> x.unseal(s, 0, 0, 0));
                    refused(place, "take in " + s, -1, x -> x.take(s, 0));
                    refused(place, "price of " + s, -1, x -> x.price(s));
                    refused(place, "won in " + s, -1, x -> x.won(s, 0));
                }
            }
        });
        says("CHOICE, ROUND", "below and above those that are there", () -> {
            for (int no : new int[] {-1, 3, 4, Integer.MIN_VALUE, Integer.MAX_VALUE}) {
                refused(Place.OPEN, "count of " + no, -1, x -> x.count(0, no));
                refused(Place.OPEN, "fallen in " + no, -1, x -> x.fallen(1, no));
                refused(Place.OVER, "count of " + no, -1, x -> x.count(0, no));
                refused(Place.OVER, "fallen in " + no, -1, x -> x.fallen(1, no));
            }
            refused(Place.OPEN, "count of 2 of two choices", -1, x -> x.count(2, 2));
        });
        says("-1 there is no such ACCOUNT", "nothing at all is there", () -> {
            refused(Place.NOTHING_THERE, "weigh", -1, x -> x.weigh(0, 1));
            refused(Place.NOTHING_THERE, "fund", -1, x -> x.fund(0, 1));
            refused(Place.NOTHING_THERE, "speak", -1, x -> x.speak(0, 0));
            refused(Place.NOTHING_THERE, "speak for another", -1, x -> x.speak(1, 0));
            refused(Place.NOTHING_THERE, "call", -1, x -> x.call(0, 0, 0, 0));
            refused(Place.NOTHING_THERE, "vote", -1, x -> x.vote(0, 0, 0));
            refused(Place.NOTHING_THERE, "hide", -1, x -> x.hide(0, 0, 0));
            refused(Place.NOTHING_THERE, "reveal", -1, x -> x.reveal(0, 0, 0, 0));
            refused(Place.NOTHING_THERE, "run", -1, x -> x.run(0));
            refused(Place.NOTHING_THERE, "bid", -1, x -> x.bid(0, 0, 1, 10));
            refused(Place.NOTHING_THERE, "seal", -1, x -> x.seal(0, 0, 0));
            refused(Place.NOTHING_THERE, "unseal", -1, x -> x.unseal(0, 0, 10, 0));
            refused(Place.NOTHING_THERE, "take", -1, x -> x.take(0, 0));
        });
    }

    private void outsideItsBounds() {
        says("-2 outside its bounds", "what makes or changes accounts, and tick()", () -> {
            for (int bad : new int[] {-1, 1001, Integer.MIN_VALUE, Integer.MAX_VALUE}) {
                refused(Place.OPEN, "account of weight " + bad, -2, x -> x.account(bad, 0));
                refused(Place.OPEN, "weigh to " + bad, -2, x -> x.weigh(0, bad));
            }
            for (int bad : new int[] {-1, 1000001, Integer.MIN_VALUE, Integer.MAX_VALUE}) {
                refused(Place.OPEN, "account of funds " + bad, -2, x -> x.account(0, bad));
            }
            for (int bad : new int[] {-1, 100001, Integer.MIN_VALUE, Integer.MAX_VALUE}) {
                refused(Place.OPEN, "fund of " + bad, -2, x -> x.fund(0, bad));
                refused(Place.OPEN, "call of " + bad, -2, x -> x.call(0, 0, bad, 0));
            }
            for (int bad : new int[] {-1, 51, Integer.MIN_VALUE, Integer.MAX_VALUE}) {
                refused(Place.OPEN, "tick of " + bad, -2, x -> x.tick(bad));
                refused(Place.SHUT, "tick of " + bad, -2, x -> x.tick(bad));
                refused(Place.OPEN, "call, " + bad + " heights", -2, x -> x.call(0, 0, 0, bad));
            }
            refused(Place.OPEN, "holds of -1", -2, x -> x.holds(0, -1));
            refused(Place.OPEN, "holds of 3", -2, x -> x.holds(0, 3));
        });
        says("-2 outside its bounds", "what asks, and what is no VOTE", () -> {
            int[][] questions = {{-1, 2, 1, 0, 0}, {4, 2, 1, 0, 0}, {0, 1, 1, 0, 0}, {0, 5, 1, 0, 0}, {0, 2, 0, 0, 0},
                {0, 2, 51, 0, 0}, {0, 2, 1, -1, 0}, {0, 2, 1, 21, 0}, {0, 2, 1, 0, -1}, {0, 2, 1, 0, 101}};
            for (int[] b : questions) {
                refused(Place.OPEN, "question", -2, x -> x.question(b[0], b[1], b[2], b[3], b[4]));
            }
            int[][] votes = {{0, 3}, {0, -2}, {1, 0}, {1, 9}, {1, 5}, {2, 6}, {2, 1024}, {3, 0}, {3, 8}};
            for (int[] b : votes) {
                refused(Place.OPEN, "vote of " + b[1] + " in " + b[0], -2, x -> x.vote(b[0], 0, b[1]));
                refused(Place.SHUT, "reveal of " + b[1] + " in " + b[0], -2, x -> x.reveal(b[0], 0, b[1], 0));
            }
            refused(Place.SHUT, "reveal of -1", -2, x -> x.reveal(2, 0, -1, 11));
        });
        says("-2 outside its bounds", "what makes an AUCTION, bids, opened marks", () -> {
            int[][] auctions = {{-1, 1, 1, 0, 1}, {5, 1, 1, 0, 1}, {0, 2, 1, 0, 1}, {0, 0, 1, 0, 1}, {4, 0, 1, 0, 1},
                {4, 21, 1, 0, 1}, {0, 1, 0, 0, 1}, {0, 1, 10001, 0, 1}, {0, 1, 1, -1, 1}, {0, 1, 1, 1001, 1},
                {0, 1, 1, 0, 0}, {0, 1, 1, 0, 51}};
            for (int[] b : auctions) {
                refused(Place.OPEN, "auction", -2, x -> x.auction(b[0], b[1], b[2], b[3], b[4]));
            }
            int[][] bids = {{0, 0, 30}, {0, 2, 30}, {0, 1, 9}, {0, 1, 1000001}, {4, 0, 10}, {4, 6, 10}, {4, 1, 2},
                {4, 1, 1000001}};
            for (int[] b : bids) {
                for (int a = 0; a < 2; a++) {
                    int account = a;
                    refused(Place.OPEN, "bid for " + b[1] + " at " + b[2], -2, x -> x.bid(b[0], account, b[1], b[2]));
                }
            }
            refused(Place.SHUT, "unseal at 9", -2, x -> x.unseal(1, 0, 9, 1));
            refused(Place.SHUT, "unseal at 1000001", -2, x -> x.unseal(1, 0, 1000001, 1));
        });
    }

    private void notInThisState() {
        says("-3 not in this state, there is none", "calls, votes, marks", () -> {
            for (Place place : new Place[] {Place.SHUT, Place.OPENED, Place.ENDED, Place.OVER}) {
                for (int question = 0; question < 4; question++) {
                    int q = question;
                    refused(place, "call of " + q, -3, x -> x.call(q, 1, 1, 0));
                    refused(place, "vote in " + q, -3, x -> x.vote(q, 0, 1));
                    refused(place, "vote -1 in " + q, -3, x -> x.vote(q, 0, -1));
                    refused(place, "hide in " + q, -3, x -> x.hide(q, 0, 1));
                }
            }
            for (Place place : new Place[] {Place.OPEN, Place.LAST_HEIGHT}) {
                refused(place, "vote in a hidden one", -3, x -> x.vote(2, 0, 1));
                refused(place, "vote -1 in a hidden one", -3, x -> x.vote(3, 2, -1));
                refused(place, "hide in an open one", -3, x -> x.hide(0, 0, 1));
                refused(place, "reveal below SHUT", -3, x -> x.reveal(2, 0, 3 + 32 * 2, 11));
                refused(place, "reveal in an open one", -3, x -> x.reveal(0, 0, 1, 11));
                refused(place, "passed below END", -3, x -> x.passed(0));
                refused(place, "run below END", -3, x -> x.run(0));
                refused(place, "fallen of another kind", -3, x -> x.fallen(0, 0));
                refused(place, "winner of none", -3, x -> x.winner(2));
            }
            refused(Place.SHUT, "reveal, another salt", -3, x -> x.reveal(2, 0, 3 + 32 * 2, 12));
            refused(Place.SHUT, "reveal, another vote", -3, x -> x.reveal(2, 0, 3, 11));
            refused(Place.SHUT, "reveal without a mark", -3, x -> x.reveal(2, 2, 3, 11));
            refused(Place.SHUT, "reveal in an open one", -3, x -> x.reveal(0, 0, 1, 11));
            refused(Place.OPENED, "reveal again", -3, x -> x.reveal(2, 0, 3 + 32 * 2, 11));
            refused(Place.ENDED, "reveal at END", -3, x -> x.reveal(3, 4, 1, 14));
            refused(Place.OVER, "reveal behind END", -3, x -> x.reveal(3, 4, 1, 14));
            refused(Place.OPENED, "passed of a hidden one below END", -3, x -> x.passed(2));
        });
        says("-3 not in this state, there is none", "calls that are run", () -> {
            refused(Place.SHUT, "run behind its lock", -3, x -> x.run(0));
            refused(Place.SHUT, "run, not passed", -3, x -> x.run(1));
            refused(Place.ENDED, "run behind its lock", -3, x -> x.run(2));
            refused(Place.OVER, "run of no call", -3, x -> x.run(3));
            refused(Place.OVER, "run again", -3, x -> x.run(0));
            refused(Place.FULL, "run again", -3, x -> x.run(2));
        });
        says("-3 not in this state, there is none", "bids, marks, takes", () -> {
            refused(Place.OPEN, "bid below the step", -3, x -> x.bid(0, 1, 1, 24));
            refused(Place.OPEN, "its own bid below the step", -3, x -> x.bid(0, 0, 1, 24));
            refused(Place.OPEN, "bid above funds", -3, x -> x.bid(0, 2, 1, 300));
            refused(Place.OPEN, "its own bid above funds", -3, x -> x.bid(0, 0, 1, 500));
            refused(Place.OPEN, "bid for units above funds", -3, x -> x.bid(4, 0, 5, 99));
            refused(Place.OPEN, "bid of nothing", -3, x -> x.bid(4, 3, 1, 3));
            refused(Place.OPEN, "seal of nothing", -3, x -> x.seal(1, 3, 1));
            refused(Place.OPEN, "take of nothing", -3, x -> x.take(3, 3));
            refused(Place.OPEN, "unseal below SHUT", -3, x -> x.unseal(1, 0, 60, 1));
            refused(Place.LAST_HEIGHT, "unseal below SHUT", -3, x -> x.unseal(1, 0, 60, 1));
            for (Place place : new Place[] {Place.OPEN, Place.SHUT, Place.OVER}) {
                for (int auction = 0; auction < 5; auction++) {
                    int s = auction;
                    if (s != 0 && s != 4 || place != Place.OPEN) {
                        refused(place, "bid in " + s, -3, x -> x.bid(s, 0, 1, 100));
                    }
                    if (s != 1 && s != 2 || place != Place.OPEN) {
                        refused(place, "seal in " + s, -3, x -> x.seal(s, 0, 100));
                    }
                    if (s != 3 || place == Place.OVER) {
                        refused(place, "take in " + s, -3, x -> x.take(s, 0));
                    }
                    refused(place, "unseal in " + s, -3, x -> x.unseal(s, 0, 100, 1));
                }
            }
            refused(Place.SHUT, "unseal, another salt", -3, x -> x.unseal(1, 0, 60, 2));
            refused(Place.SHUT, "unseal, another price", -3, x -> x.unseal(1, 0, 61, 1));
            refused(Place.SHUT, "unseal without a mark", -3, x -> x.unseal(2, 0, 60, 1));
            refused(Place.OPENED, "unseal again", -3, x -> x.unseal(1, 0, 60, 1));
            refused(Place.OVER, "unseal at END", -3, x -> x.unseal(2, 1, 30, 3));
            refused(Place.OPENED, "price of kind 1 below END", -3, x -> x.price(1));
            refused(Place.OPEN, "price of kind 4 below END", -3, x -> x.price(4));
        });
        says("-3 not in this state, there is none", "an opened price that its funds can't meet", () -> {
            VoteAuctions x = withAccounts(0, 100);
            x.auction(1, 1, 10, 0, 1);
            x.auction(3, 1, 50, 0, 9);
            x.seal(0, 0, x.mark(0, 80, 1));
            x.take(1, 0);
            x.tick(1);
            due("unseal at 80 of 50", x.unseal(0, 0, 80, 1), -3);
            dueHolds(x, 0, 40, 10);
            x.fund(0, 30);
            due("unseal at 80 of 80", x.unseal(0, 0, 80, 1), 1);
            dueHolds(x, 0, 0, 80);
        });
    }

    private void noRoom() {
        says("-4 no room", "a ninth ACCOUNT, a seventh QUESTION, a seventh AUCTION", () -> {
            refused(Place.FULL, "account", -4, x -> x.account(0, 0));
            refused(Place.FULL, "question", -4, x -> x.question(0, 2, 1, 0, 0));
            refused(Place.FULL, "auction", -4, x -> x.auction(0, 1, 1, 0, 1));
        });
    }

    private void theFirstNamed() {
        says("of several the one that the call names first", "-2 before -4", () -> {
            refused(Place.FULL, "account", -2, x -> x.account(-1, 0));
            refused(Place.FULL, "account", -2, x -> x.account(0, 1000001));
            refused(Place.FULL, "question", -2, x -> x.question(4, 2, 1, 0, 0));
            refused(Place.FULL, "question", -2, x -> x.question(0, 2, 1, 0, 101));
            refused(Place.FULL, "auction", -2, x -> x.auction(5, 1, 1, 0, 1));
            refused(Place.FULL, "auction", -2, x -> x.auction(0, 1, 1, 0, 51));
        });
        says("of several the one that the call names first", "-1 before -2", () -> {
            refused(Place.OPEN, "weigh", -1, x -> x.weigh(5, 1001));
            refused(Place.OPEN, "fund", -1, x -> x.fund(5, 100001));
            refused(Place.OPEN, "holds", -1, x -> x.holds(5, 3));
            refused(Place.OPEN, "call of no question", -1, x -> x.call(4, 0, 100001, 0));
            refused(Place.OPEN, "call for no account", -1, x -> x.call(0, 5, 0, 51));
            refused(Place.OPEN, "vote in no question", -1, x -> x.vote(4, 0, -2));
            refused(Place.OPEN, "vote of no account", -1, x -> x.vote(0, 5, 3));
            refused(Place.SHUT, "reveal in no question", -1, x -> x.reveal(4, 0, -1, 0));
            refused(Place.SHUT, "reveal of no account", -1, x -> x.reveal(2, 5, -1, 0));
            refused(Place.OPEN, "bid in no auction", -1, x -> x.bid(5, 0, 0, 0));
            refused(Place.OPEN, "bid of no account", -1, x -> x.bid(0, 5, 0, 0));
            refused(Place.SHUT, "unseal in no auction", -1, x -> x.unseal(5, 0, 0, 0));
            refused(Place.SHUT, "unseal of no account", -1, x -> x.unseal(1, 5, 0, 0));
        });
        says("of several the one that the call names first", "-1 before -3", () -> {
            refused(Place.OVER, "call", -1, x -> x.call(0, 5, 0, 0));
            refused(Place.OVER, "vote", -1, x -> x.vote(0, 5, 0));
            refused(Place.OPEN, "vote in a hidden one", -1, x -> x.vote(2, 5, 0));
            refused(Place.OVER, "hide", -1, x -> x.hide(2, 5, 0));
            refused(Place.OPEN, "hide in an open one", -1, x -> x.hide(0, 5, 0));
            refused(Place.OPEN, "reveal below SHUT", -1, x -> x.reveal(2, 5, 0, 0));
            refused(Place.OPEN, "bid in another kind", -1, x -> x.bid(1, 5, 1, 10));
            refused(Place.OPEN, "seal in another kind", -1, x -> x.seal(0, 5, 0));
            refused(Place.OPEN, "unseal in another kind", -1, x -> x.unseal(0, 5, 10, 0));
            refused(Place.OPEN, "take in another kind", -1, x -> x.take(0, 5));
        });
        says("of several the one that the call names first", "-2 before -3", () -> {
            refused(Place.OVER, "call", -2, x -> x.call(0, 0, -1, 0));
            refused(Place.OVER, "call", -2, x -> x.call(0, 0, 0, 51));
            refused(Place.OVER, "vote", -2, x -> x.vote(0, 0, 3));
            refused(Place.OPEN, "vote in a hidden one", -2, x -> x.vote(2, 0, -2));
            refused(Place.OPEN, "reveal below SHUT", -2, x -> x.reveal(2, 0, -1, 0));
            refused(Place.OPEN, "reveal in an open one", -2, x -> x.reveal(0, 0, 3, 0));
            refused(Place.OVER, "reveal behind END", -2, x -> x.reveal(2, 0, -1, 0));
            refused(Place.OPEN, "bid for 2 units in another kind", -2, x -> x.bid(1, 0, 2, 10));
            refused(Place.OPEN, "bid at 9 in another kind", -2, x -> x.bid(3, 0, 1, 9));
            refused(Place.OVER, "bid when it is over", -2, x -> x.bid(0, 0, 1, 9));
            refused(Place.OPEN, "bid of nothing", -2, x -> x.bid(0, 3, 1, 1000001));
            refused(Place.OPEN, "unseal in another kind", -2, x -> x.unseal(0, 0, 9, 0));
            refused(Place.OPEN, "unseal below SHUT", -2, x -> x.unseal(1, 0, 1000001, 0));
            refused(Place.OVER, "unseal at END", -2, x -> x.unseal(1, 0, 9, 0));
        });
        says("of several the one that the call names first", "fallen: -1, -3, and -1 again", () -> {
            refused(Place.OPEN, "fallen in no question", -1, x -> x.fallen(4, -1));
            refused(Place.OPEN, "fallen of another kind, no such round", -3, x -> x.fallen(0, -1));
            refused(Place.OPEN, "fallen in no such round", -1, x -> x.fallen(1, -1));
        });
    }

    public static void main(String[] args) throws IOException {
        RefusalBoundaryTests tests = new RefusalBoundaryTests();
        tests.section("Terms, refusals");
        tests.theRun();
        tests.noSuchAccount();
        tests.noSuchQuestion();
        tests.outsideItsBounds();
        tests.notInThisState();
        tests.noRoom();
        tests.theFirstNamed();
        tests.end();
    }
}
