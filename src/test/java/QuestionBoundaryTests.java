import java.io.IOException;
import java.util.HashSet;
import java.util.Set;

/** Boundary tests of promises 10 to 19, and of what the document says of questions. */
public final class QuestionBoundaryTests extends Boundaries {
    private static final int[] NO_NUMBERS = {-1, Integer.MIN_VALUE, Integer.MAX_VALUE};

    private QuestionBoundaryTests() throws IOException {
    }

    // ---- what the terms say

    private void termsOfQuestions() {
        section("Terms, questions");
        says("QUESTIONS 0, 1, .. (6 at most)", "full, and one more", () -> {
            VoteAuctions x = withAccounts(5, 0);
            for (int i = 0; i < 6; i++) {
                due("winner before it is there", x.winner(i), -1);
                due("question", x.question(0, 2, 2, 0, 0), i);
                due("winner", x.winner(i), -3);
            }
            due("a seventh question", x.question(0, 2, 2, 0, 0), -4);
            due("winner of a seventh", x.winner(6), -1);
            due("vote in the last", x.vote(5, 0, 1), 1);
            due("winner of the last", x.winner(5), 1);
        });
        says("CHOICES 0 .. c - 1", "the first, the last, and beside them", () -> {
            for (int kind = 0; kind < 4; kind++) {
                for (int c = 2; c <= 4; c++) {
                    VoteAuctions x = withAccounts(5, 0);
                    x.question(kind, c, 2, 0, 0);
                    due("count of -1", x.count(0, -1), -1);
                    due("count of 0", x.count(0, 0), 0);
                    due("count of the last", x.count(0, c - 1), 0);
                    due("count behind the last", x.count(0, c), -1);
                }
            }
        });
        says("and may have a CALL", "it has none", () -> {
            VoteAuctions x = passedQuestion();
            due("passed(0)", x.passed(0), 1);
            due("run(0)", x.run(0), -3);
        });
        says("A QUESTION is HIDDEN if its END is above SHUT", "at SHUT, one above, the most above", () -> {
            VoteAuctions x = withAccounts(5, 0);
            x.question(0, 2, 2, 0, 0);
            x.question(0, 2, 2, 1, 0);
            x.question(0, 2, 2, 20, 0);
            for (int q = 0; q < 3; q++) {
                due("vote in " + q, x.vote(q, 0, 1), q == 0 ? 1 : -3);
                due("hide in " + q, x.hide(q, 0, 1), q == 0 ? -3 : 1);
            }
        });
        says("the WEIGHTS that ACCOUNTS had when it was asked", "weighed to 0 and from 0 later", () -> {
            VoteAuctions x = withAccounts(5, 0, 0, 0);
            x.question(0, 2, 2, 0, 100);
            x.question(3, 2, 2, 0, 0);
            x.weigh(0, 0);
            x.weigh(1, 1000);
            x.vote(0, 0, 0);
            x.vote(0, 1, 1);
            due("count of 0", x.count(0, 0), 5);
            due("count of 1", x.count(0, 1), 0);
            due("strengths 2 and 1 of weight 5", x.vote(1, 0, 2 + 32), 1);
            due("strength 1 of weight 0", x.vote(1, 1, 1), -2);
            x.tick(2);
            due("passed by 5 of 5", x.passed(0), 1);
        });
        says("(0 of those that came later)", "it votes, is spoken for, and speaks for another", () -> {
            VoteAuctions x = withAccounts(5, 0);
            x.question(0, 2, 2, 0, 100);
            x.question(3, 2, 2, 0, 0);
            due("account", x.account(1000, 0), 1);
            due("vote of a later one", x.vote(0, 1, 0), 1);
            due("count", x.count(0, 0), 0);
            due("winner", x.winner(0), -3);
            due("strength of a later one", x.vote(1, 1, 1), -2);
            due("no strength of a later one", x.vote(1, 1, 0), 1);
            x.speak(0, 1);
            due("count", x.count(0, 0), 5);
            x.tick(2);
            due("5 of 5 weights", x.passed(0), 1);
        });
        says("VOTES are told till HEIGHT is SHUT (as long as it is below)", "one below, at it, above it", () -> {
            VoteAuctions x = withAccounts(5, 0);
            x.tick(7);
            x.question(0, 2, 3, 0, 0);
            x.tick(2);
            due("vote one below", x.vote(0, 0, 1), 1);
            x.tick(1);
            due("vote at it", x.vote(0, 0, 0), -3);
            x.tick(1);
            due("vote above it", x.vote(0, 0, 0), -3);
            due("count", x.count(0, 1), 5);
        });
        says("of a HIDDEN one MARKS are", "one below SHUT, at it, above it", () -> {
            VoteAuctions x = withAccounts(5, 0, 6, 0);
            x.tick(7);
            x.question(0, 2, 3, 3, 0);
            x.tick(2);
            due("hide one below", x.hide(0, 0, x.mark(0, 1, 9)), 1);
            x.tick(1);
            due("hide at it", x.hide(0, 1, x.mark(1, 1, 9)), -3);
            x.tick(1);
            due("hide above it", x.hide(0, 0, x.mark(0, 0, 9)), -3);
            due("the mark that was told in time", x.reveal(0, 0, 1, 9), 1);
            due("one that was not", x.reveal(0, 1, 1, 9), -3);
        });
        says("from SHUT on, till END, they are opened", "one below SHUT, at it, one below END, at END", () -> {
            VoteAuctions x = withAccounts(5, 0, 6, 0, 7, 0);
            x.question(0, 2, 3, 2, 0);
            for (int a = 0; a < 3; a++) {
                x.hide(0, a, x.mark(a, 1, a));
            }
            x.tick(2);
            due("reveal one below SHUT", x.reveal(0, 0, 1, 0), -3);
            x.tick(1);
            due("reveal at SHUT", x.reveal(0, 0, 1, 0), 1);
            x.tick(1);
            due("reveal one below END", x.reveal(0, 1, 1, 1), 1);
            x.tick(1);
            due("reveal at END", x.reveal(0, 2, 1, 2), -3);
            due("count", x.count(0, 1), 11);
        });
        says("then there is the VOTE", "none before it is opened, to the end if it never is", () -> {
            VoteAuctions x = withAccounts(5, 0, 6, 0);
            x.question(0, 2, 1, 1, 1);
            x.hide(0, 0, x.mark(0, 0, 9));
            x.hide(0, 1, x.mark(1, 0, 9));
            due("count of marks", x.count(0, 0), 0);
            due("winner of marks", x.winner(0), -3);
            x.tick(1);
            x.reveal(0, 1, 0, 9);
            due("count of one opened", x.count(0, 0), 6);
            x.tick(1);
            due("count of one opened", x.count(0, 0), 6);
        });
        termsOfVotes();
        termsOfVoices();
        termsOfCounting();
        termsOfPassing();
    }

    private void termsOfVotes() {
        says("A VOTE v, by KIND: 0: a CHOICE", "all numbers from below to above", () -> {
            for (int c = 2; c <= 4; c++) {
                for (int v = -5; v <= 70; v++) {
                    dueVote(0, c, 5, v, v >= 0 && v < c);
                }
                dueNoVotes(0, c);
            }
        });
        says("1: a set of CHOICES, 2^i for CHOICE i, not empty", "all numbers from below to above", () -> {
            for (int c = 2; c <= 4; c++) {
                for (int v = -5; v <= 70; v++) {
                    dueVote(1, c, 5, v, v > 0 && v < 1 << c);
                }
                dueNoVotes(1, c);
                dueVote(1, c, 5, 1 << 30, false);
                dueVote(1, c, 5, (1 << 30) + 1, false);
            }
        });
        says("2: RANKS: its digits to the base 8", "all numbers to one digit more than there can be", () -> {
            for (int c = 2; c <= 4; c++) {
                Set<Integer> ranks = new HashSet<>();
                addRanks(ranks, c, 0, 1);
                for (int v = -9; v < 1 << 15; v++) {
                    dueVote(2, c, 5, v, ranks.contains(v));
                }
                dueNoVotes(2, c);
            }
        });
        says("the lowest first, are 1 more than the first, second, .. CHOICE", "the first and the last CHOICE", () -> {
            VoteAuctions x = ranked(4, new int[] {5}, 1 + 8 * 4);
            due("count of 0, the first rank", x.count(0, 0), 5);
            due("vote", x.vote(0, 0, 4 + 8), 1);
            due("count of 3, the first rank", x.count(0, 3), 5);
            due("count of 0, the second rank", x.count(0, 0), 0);
        });
        says("unlike ones, one at least, and 0 behind them", "each of them by itself", () -> {
            for (int v : new int[] {1 + 8, 2 + 8 * 2, 1 + 8 * 2 + 64, 0, 8, 64, 1 + 64 * 2, 5, 6, 7, 1 + 8 * 5}) {
                dueVote(2, 4, 5, v, false);
            }
            for (int digit = 4; digit <= 9; digit++) {
                dueVote(2, 4, 5, 1 + 8 * 2 + 64 * 3 + 512 * 4 + (1 << (3 * digit)), false);
            }
            dueVote(2, 4, 5, 1 + (1 << 30), false);
            dueVote(2, 4, 5, 1 + Integer.MIN_VALUE, false);
            dueVote(2, 4, 5, 1 + 8 * 2 + 64 * 3 + 512 * 4, true);
        });
        says("3: its digits to the base 32", "all numbers of two CHOICES and above, by the WEIGHT", () -> {
            for (int weight : new int[] {0, 1, 2, 49, 50, 51, 960, 961, 962, 1000}) {
                for (int v = -3; v < 1 << 12; v++) {
                    int first = v & 31;
                    int second = (v >> 5) & 31;
                    dueVote(3, 2, weight, v, v >= 0 && v < 1 << 10 && first * first + second * second <= weight);
                }
            }
        });
        says("are the STRENGTHS of CHOICES 0, 1, .., c - 1", "the last digit, and one behind it", () -> {
            for (int c = 2; c <= 4; c++) {
                dueVote(3, c, 1000, 1 << (5 * (c - 1)), true);
                dueVote(3, c, 1000, 31 << (5 * (c - 1)), true);
                dueVote(3, c, 1000, 1 << (5 * c), false);
                dueVote(3, c, 1000, 1 + (1 << (5 * c)), false);
                dueVote(3, c, 1000, 1 << 30, false);
                dueNoVotes(3, c);
            }
        });
        says("whose squares together are not above the ACCOUNT's WEIGHT there", "at it, one above it", () -> {
            dueVote(3, 4, 1000, 30 + 32 * 10, true);
            dueVote(3, 4, 999, 30 + 32 * 10, false);
            dueVote(3, 4, 1000, 30 + 32 * 10 + (1 << 15), false);
            dueVote(3, 4, 4, 1 + 32 + (1 << 10) + (1 << 15), true);
            dueVote(3, 4, 3, 1 + 32 + (1 << 10) + (1 << 15), false);
            dueVote(3, 4, 0, 0, true);
            dueVote(3, 4, 0, 1, false);
            dueVote(3, 4, 1000, 31 + 32 * 31 + (31 << 10) + (31 << 15), false);
        });
    }

    private static void addRanks(Set<Integer> ranks, int choices, int v, int place) {
        for (int digit = 1; digit <= choices; digit++) {
            boolean isNew = true;
            for (int rest = v; rest > 0; rest /= 8) {
                isNew &= rest % 8 != digit;
            }
            if (isNew) {
                ranks.add(v + place * digit);
                addRanks(ranks, choices, v + place * digit, place * 8);
            }
        }
    }

    // What can be told can be opened too, so that each number is tried both ways.
    private void dueVote(int kind, int choices, int weight, int v, boolean isVote) {
        VoteAuctions x = withAccounts(weight, 0);
        x.question(kind, choices, 1, 0, 0);
        x.question(kind, choices, 1, 1, 0);
        String what = v + " of kind " + kind + ", " + choices + " choices, weight " + weight;
        due("vote of " + what, x.vote(0, 0, v), isVote || v == -1 ? 1 : -2);
        x.hide(1, 0, x.mark(0, v, 3));
        x.tick(1);
        due("reveal of " + what, x.reveal(1, 0, v, 3), isVote ? 1 : -2);
    }

    private void dueNoVotes(int kind, int choices) {
        for (int v : new int[] {-2, Integer.MIN_VALUE, Integer.MIN_VALUE + 1, Integer.MAX_VALUE}) {
            dueVote(kind, choices, 1000, v, false);
        }
    }

    private void termsOfVoices() {
        says("an ACCOUNT with a VOTE gives its WEIGHT to that", "though its SPEAKER has another", () -> {
            VoteAuctions x = withAccounts(1, 0, 2, 0);
            x.question(0, 2, 5, 0, 0);
            x.speak(0, 1);
            x.vote(0, 1, 1);
            x.vote(0, 0, 0);
            due("count of 0", x.count(0, 0), 1);
            due("count of 1", x.count(0, 1), 2);
        });
        says("one without, but in KIND 3, to the VOTE of its SPEAKER", "in each KIND", () -> {
            int[] first = {0, 1, 1, 1};
            for (int kind = 0; kind < 4; kind++) {
                VoteAuctions x = withAccounts(30, 0, 70, 0);
                x.question(kind, 2, 1, 0, 71);
                x.speak(0, 1);
                x.vote(0, 1, first[kind]);
                due("count, kind " + kind, x.count(0, 0), kind == 3 ? 1 : 100);
                x.tick(1);
                due("passed, kind " + kind, x.passed(0), kind == 3 ? 0 : 1);
            }
        });
        says("otherwise of the SPEAKER's SPEAKER, and so on", "through all eight accounts, either way", () -> {
            VoteAuctions x = withAccounts(1, 0, 2, 0, 4, 0, 8, 0, 16, 0, 32, 0, 64, 0, 128, 0);
            x.question(0, 2, 5, 0, 0);
            x.question(1, 2, 5, 0, 0);
            for (int i = 0; i < 7; i++) {
                x.speak(i, i + 1);
            }
            x.vote(0, 7, 1);
            due("count", x.count(0, 1), 255);
            x.vote(0, 3, 0);
            due("count of the nearest vote", x.count(0, 0), 15);
            due("count of the farther one", x.count(0, 1), 240);
            x.speak(7, 7);
            for (int i = 7; i > 0; i--) {
                x.speak(i, i - 1);
            }
            x.speak(0, 0);
            x.vote(1, 0, 2);
            due("count", x.count(1, 1), 255);
        });
        says("to none if nobody comes in this way who has one (the row ends", "after no, one and seven speakers",
            () -> {
                VoteAuctions x = withAccounts(1, 0, 1, 0, 1, 0, 1, 0, 1, 0, 1, 0, 1, 0, 1, 0);
                x.question(0, 2, 1, 0, 0);
                due("winner, no speaker", x.winner(0), -3);
                x.speak(0, 1);
                due("winner, one speaker", x.winner(0), -3);
                for (int i = 1; i < 7; i++) {
                    x.speak(i, i + 1);
                }
                due("winner, seven speakers", x.winner(0), -3);
                x.tick(1);
                due("passed without a voice", x.passed(0), 0);
            });
        says("or goes round)", "two, eight, and a row that runs into a round", () -> {
            VoteAuctions x = withAccounts(1, 0, 2, 0, 4, 0, 8, 0, 16, 0, 32, 0, 64, 0, 128, 0);
            x.question(0, 2, 9, 0, 0);
            x.speak(0, 1);
            x.speak(1, 0);
            due("winner, two", x.winner(0), -3);
            x.speak(2, 1);
            x.speak(3, 2);
            x.vote(0, 7, 1);
            due("count of another, a row into a round", x.count(0, 1), 128);
            x.vote(0, 7, -1);
            for (int i = 0; i < 8; i++) {
                x.speak(i, (i + 1) % 8);
            }
            due("winner, eight", x.winner(0), -3);
            x.vote(0, 4, 0);
            due("count, eight with one vote", x.count(0, 0), 255);
        });
        says("SPEAKERS count as they are", "each change at once, till one below END", () -> {
            VoteAuctions x = withAccounts(1, 0, 2, 0, 4, 0);
            x.question(0, 2, 2, 2, 0);
            x.hide(0, 1, x.mark(1, 0, 0));
            x.hide(0, 2, x.mark(2, 1, 0));
            x.tick(2);
            x.reveal(0, 1, 0, 0);
            x.reveal(0, 2, 1, 0);
            due("count without", x.count(0, 0), 2);
            x.speak(0, 1);
            due("count with", x.count(0, 0), 3);
            x.tick(1);
            x.speak(0, 2);
            due("count with another, one below END", x.count(0, 1), 5);
            x.tick(1);
            due("count with another, at END", x.count(0, 1), 5);
        });
        says("from END on as they were when HEIGHT came to it", "a new one, another one, none any more", () -> {
            VoteAuctions x = withAccounts(1, 0, 2, 0, 4, 0, 8, 0);
            x.question(0, 2, 2, 0, 0);
            x.question(0, 2, 3, 0, 0);
            for (int q = 0; q < 2; q++) {
                x.vote(q, 0, 0);
                x.vote(q, 1, 1);
            }
            x.speak(2, 0);
            x.tick(2);
            x.speak(2, 1);
            x.speak(3, 1);
            due("count of 0 as it was", x.count(0, 0), 5);
            due("count of 1 as it was", x.count(0, 1), 2);
            due("count of 1 where END is later", x.count(1, 1), 14);
            x.tick(1);
            x.speak(2, 2);
            x.speak(3, 3);
            due("count of 1 as it was then", x.count(1, 1), 14);
            x.tick(50);
            due("count of 0 much later", x.count(0, 0), 5);
            due("count of 1 much later", x.count(1, 1), 14);
        });
    }

    private void termsOfCounting() {
        says("KIND 0, 1: the sum of the WEIGHTS that are given to VOTES with it", "nothing, and the most", () -> {
            VoteAuctions x = withAccounts(1000, 0, 1000, 0, 1000, 0, 1000, 0, 1000, 0, 1000, 0, 1000, 0, 1000, 0);
            x.question(0, 2, 1, 0, 100);
            x.question(1, 2, 1, 0, 100);
            due("count, kind 0, no vote", x.count(0, 0), 0);
            due("count, kind 1, no vote", x.count(1, 1), 0);
            for (int a = 0; a < 8; a++) {
                x.vote(0, a, 0);
                x.vote(1, a, 3);
            }
            due("count, kind 0", x.count(0, 0), 8000);
            due("count, kind 0, the other", x.count(0, 1), 0);
            due("count, kind 1", x.count(1, 0), 8000);
            due("count, kind 1, the other", x.count(1, 1), 8000);
            x.tick(1);
            due("passed by all", x.passed(0), 1);
            due("passed by all", x.passed(1), 1);
        });
        says("KIND 3: the sum of its STRENGTHS in all VOTES", "nothing, and the most", () -> {
            VoteAuctions x = withAccounts(1000, 0, 1000, 0, 1000, 0, 1000, 0, 1000, 0, 1000, 0, 1000, 0, 1000, 0);
            x.question(3, 4, 1, 0, 0);
            due("count, no vote", x.count(0, 3), 0);
            for (int a = 0; a < 8; a++) {
                x.vote(0, a, 31 << 15);
            }
            due("count of the last", x.count(0, 3), 8 * 31);
            due("count of the first", x.count(0, 0), 0);
            x.vote(0, 0, 0);
            due("count without one", x.count(0, 3), 7 * 31);
        });
        says("KIND 2: what it has in the last ROUND", "not in the first", () -> {
            VoteAuctions x = ranked(4, new int[] {4, 3, 2, 1}, 1, 2, 3 + 8 * 2, 4 + 8 * 2);
            due("count of 0", x.count(0, 0), 4);
            due("count of 1", x.count(0, 1), 6);
            due("count of 2", x.count(0, 2), 0);
            due("count of 3", x.count(0, 3), 0);
        });
        says("the first CHOICE of its VOTE's RANKS that is still in", "the second, the third, none left", () -> {
            VoteAuctions x = ranked(4, new int[] {10, 9, 3, 2}, 1, 2, 3 + 8 * 4 + 64 * 2, 4 + 8 * 3);
            // 10 9 3 2: 3 falls; 10 9 5 -: 2 falls, and of its 5 the 3 have 3 out and then 1, the 2 have none
            due("first fall", x.fallen(0, 0), 3);
            due("second fall", x.fallen(0, 1), 2);
            due("count of 0", x.count(0, 0), 10);
            due("count of 1", x.count(0, 1), 12);
            due("third fall", x.fallen(0, 2), -1);
        });
        says("the first CHOICE of its VOTE's RANKS that is still in", "the last of all ranks", () -> {
            VoteAuctions two = ranked(2, new int[] {4, 4}, 1, 2 + 8);
            due("count by the second of two ranks", two.count(0, 0), 8);
            VoteAuctions three = ranked(3, new int[] {4, 4, 4}, 1, 2 + 8 * 3 + 64, 3 + 8 * 2 + 64);
            // 2 falls; 4 8 -: 1 has more than half
            due("count by the second of three ranks", three.count(0, 1), 8);
            VoteAuctions four = ranked(4, new int[] {3, 3}, 1, 4 + 8 * 3 + 64 * 2 + 512);
            // 2 and 1 fall with 0, then 3, the greater of two
            due("count by the fourth of four ranks", four.count(0, 0), 6);
            due("the last that fell", four.fallen(0, 2), 3);
        });
        says("If one has more than half of all that counts in this ROUND", "half, one more than half", () -> {
            VoteAuctions half = ranked(3, new int[] {5, 3, 2}, 1, 2, 3);
            due("fallen with half", half.fallen(0, 0), 2);
            VoteAuctions more = ranked(3, new int[] {6, 3, 2}, 1, 2, 3);
            due("fallen with 6 of 11", more.fallen(0, 0), -1);
            due("count of what is still in", more.count(0, 2), 2);
            VoteAuctions less = ranked(3, new int[] {5, 4, 2}, 1, 2, 3);
            due("fallen with 5 of 11", less.fallen(0, 0), 2);
            due("then 5 of 9 that count", less.fallen(0, 1), -1);
        });
        says("of all that counts in this ROUND", "what has none left and what is given to nobody count no more", () -> {
            VoteAuctions x = ranked(4, new int[] {4, 3, 2, 2, 900}, 1, 2, 3, 4);
            due("first fall", x.fallen(0, 0), 3);
            due("second fall", x.fallen(0, 1), 2);
            due("third fall: 4 of 7 is more than half", x.fallen(0, 2), -1);
            due("count of 1", x.count(0, 1), 3);
        });
        says("or one alone is in, that was the last", "though it has no more than half", () -> {
            VoteAuctions x = ranked(2, new int[] {4, 4}, 1, 2);
            due("first fall", x.fallen(0, 0), 1);
            due("second fall", x.fallen(0, 1), -1);
            due("count of 0", x.count(0, 0), 4);
            VoteAuctions y = ranked(2, new int[] {0, 0}, 1, 2);
            due("first fall of nothing", y.fallen(0, 0), 1);
            due("second fall of nothing", y.fallen(0, 1), -1);
        });
        says("otherwise the one with least FALLS, of several the greatest", "two, three and four alike", () -> {
            VoteAuctions two = ranked(4, new int[] {3, 1, 2, 1}, 1, 2, 3, 4);
            due("two alike", two.fallen(0, 0), 3);
            due("then the other", two.fallen(0, 1), 1);
            VoteAuctions three = ranked(4, new int[] {4, 2, 2, 2}, 1, 2, 3, 4);
            due("three alike", three.fallen(0, 0), 3);
            VoteAuctions four = ranked(4, new int[] {2, 2, 2, 2}, 1, 2, 3, 4);
            due("four alike", four.fallen(0, 0), 3);
            due("then three", four.fallen(0, 1), 2);
            due("then two", four.fallen(0, 2), 1);
            due("then none", four.fallen(0, 3), -1);
            VoteAuctions none = ranked(4, new int[] {2, 2}, 2, 4);
            due("two with 0", none.fallen(0, 0), 2);
            due("then the other with 0", none.fallen(0, 1), 0);
            due("then the greater of two", none.fallen(0, 2), 3);
        });
        says("(it has 0 then)", "each one that fell", () -> {
            VoteAuctions x = ranked(4, new int[] {2, 2, 2, 2}, 1, 2, 3, 4);
            due("count of 0", x.count(0, 0), 2);
            for (int c = 1; c < 4; c++) {
                due("count of " + c, x.count(0, c), 0);
            }
        });
        says("and there is another ROUND", "as many as there are CHOICES", () -> {
            for (int c = 2; c <= 4; c++) {
                VoteAuctions x = withAccounts(1, 0);
                x.question(2, c, 5, 0, 0);
                for (int k = 0; k < c - 1; k++) {
                    due("fallen of " + c, x.fallen(0, k), c - 1 - k);
                }
                due("fallen of " + c + " at last", x.fallen(0, c - 1), -1);
            }
        });
        termsOfWinners();
    }

    private void termsOfWinners() {
        says("KIND 2: the one with most in the last ROUND", "who had not most in the first", () -> {
            VoteAuctions x = ranked(3, new int[] {4, 3, 2}, 1, 2, 3 + 8 * 2);
            due("winner", x.winner(0), 1);
        });
        says("others: the one that has most", "by one more, the last, the first", () -> {
            for (int kind : new int[] {0, 1, 3}) {
                for (int best = 0; best < 4; best++) {
                    VoteAuctions x = withAccounts(6, 0, 7, 0);
                    x.question(kind, 4, 2, 0, 0);
                    x.vote(0, 0, voteFor(kind, (best + 1) % 4, 1));
                    x.vote(0, 1, voteFor(kind, best, 2));
                    due("winner, kind " + kind, x.winner(0), best);
                }
            }
        });
        says("Of several the least", "two and all, in each KIND", () -> {
            for (int kind = 0; kind < 4; kind++) {
                VoteAuctions x = withAccounts(6, 0, 6, 0, 6, 0, 6, 0);
                x.question(kind, 4, 2, 0, 0);
                x.vote(0, 0, voteFor(kind, 3, 1));
                x.vote(0, 1, voteFor(kind, 2, 1));
                due("winner of two, kind " + kind, x.winner(0), 2);
                x.vote(0, 2, voteFor(kind, 1, 1));
                x.vote(0, 3, voteFor(kind, 0, 1));
                due("winner of four, kind " + kind, x.winner(0), 0);
            }
            VoteAuctions set = withAccounts(6, 0);
            set.question(1, 4, 2, 0, 0);
            set.vote(0, 0, 12);
            due("winner of one set", set.winner(0), 2);
        });
        says("none if all have 0", "no account, no vote, a vote of no weight, no strength, in each KIND", () -> {
            for (int kind = 0; kind < 4; kind++) {
                VoteAuctions x = new VoteAuctions();
                x.question(kind, 3, 2, 0, 0);
                due("winner without an account, kind " + kind, x.winner(0), -3);
                due("count without an account", x.count(0, 0), 0);
                x.account(0, 0);
                x.question(kind, 3, 2, 0, 0);
                due("winner without a vote", x.winner(1), -3);
                due("vote", x.vote(1, 0, kind == 3 ? 0 : 1), 1);
                due("winner of no weight, kind " + kind, x.winner(1), -3);
                x.tick(2);
                due("passed", x.passed(1), 0);
            }
        });
        says("(KIND 2: in the first ROUND)", "one with the least weight is enough", () -> {
            VoteAuctions x = ranked(4, new int[] {0, 1}, 1, 4);
            due("winner", x.winner(0), 3);
            due("fallen", x.fallen(0, 0), -1);
            VoteAuctions y = ranked(4, new int[] {0, 0}, 1, 4);
            due("winner of 0", y.winner(0), -3);
            due("fallen of 0", y.fallen(0, 0), 3);
        });
    }

    private static int voteFor(int kind, int choice, int strength) {
        switch (kind) {
            case 0:
                return choice;
            case 1:
                return 1 << choice;
            case 2:
                return choice + 1;
            default:
                return strength << (5 * choice);
        }
    }

    /** Question 0 of KIND 2, with an account for each weight, of which the first ones vote. */
    private static VoteAuctions ranked(int choices, int[] weights, int... votes) {
        VoteAuctions x = new VoteAuctions();
        for (int weight : weights) {
            x.account(weight, 0);
        }
        x.question(2, choices, 5, 0, 0);
        for (int a = 0; a < votes.length; a++) {
            x.vote(0, a, votes[a]);
        }
        return x;
    }

    private void termsOfPassing() {
        says("A QUESTION is PASSED if HEIGHT is END or more", "one below, at it, above it", () -> {
            VoteAuctions x = withAccounts(5, 0);
            x.question(0, 2, 1, 2, 0);
            x.hide(0, 0, x.mark(0, 0, 0));
            x.tick(1);
            x.reveal(0, 0, 0, 0);
            x.tick(1);
            due("passed one below", x.passed(0), -3);
            x.tick(1);
            due("passed at it", x.passed(0), 1);
            x.tick(50);
            due("passed above it", x.passed(0), 1);
        });
        says("its WINNER is 0", "0, another, none, 0 of several", () -> {
            VoteAuctions x = withAccounts(5, 0, 5, 0);
            for (int i = 0; i < 4; i++) {
                x.question(0, 3, 1, 0, 0);
            }
            x.vote(0, 0, 0);
            x.vote(1, 0, 1);
            x.vote(3, 0, 0);
            x.vote(3, 1, 2);
            x.tick(1);
            due("passed with 0", x.passed(0), 1);
            due("passed with 1", x.passed(1), 0);
            due("passed with none", x.passed(2), 0);
            due("passed with 0 of several", x.passed(3), 1);
        });
        says("all WEIGHTS given to some VOTE", "at the QUORUM, one below, for another CHOICE too", () -> {
            // 50 of 100, of which 20 are for choice 1
            for (int quorum : new int[] {0, 1, 49, 50, 51, 100}) {
                VoteAuctions x = withAccounts(30, 0, 20, 0, 50, 0);
                x.question(0, 2, 1, 0, quorum);
                x.vote(0, 0, 0);
                x.vote(0, 1, 1);
                x.tick(1);
                due("passed with 50 of 100, quorum " + quorum, x.passed(0), quorum <= 50 ? 1 : 0);
            }
        });
        says("times 100, are not below QUORUM times all WEIGHTS there", "no rounding: 1 of 3, 2 of 3, 3 of 3", () -> {
            for (int voting = 1; voting <= 3; voting++) {
                for (int quorum : new int[] {33, 34, 66, 67, 99, 100}) {
                    VoteAuctions x = withAccounts(1, 0, 1, 0, 1, 0);
                    x.question(0, 2, 1, 0, quorum);
                    for (int a = 0; a < voting; a++) {
                        x.vote(0, a, 0);
                    }
                    x.tick(1);
                    due(voting + " of 3, quorum " + quorum, x.passed(0), voting * 100 >= quorum * 3 ? 1 : 0);
                }
            }
        });
        says("times all WEIGHTS there", "the most of them, one missing", () -> {
            VoteAuctions x = withAccounts(1000, 0, 1000, 0, 1000, 0, 1000, 0, 1000, 0, 1000, 0, 1000, 0, 999, 0);
            x.question(0, 2, 1, 0, 100);
            x.question(0, 2, 1, 0, 88);
            x.question(0, 2, 1, 0, 87);
            for (int a = 0; a < 7; a++) {
                for (int q = 0; q < 3; q++) {
                    x.vote(q, a, 0);
                }
            }
            x.tick(1);
            due("7000 of 7999, quorum 100", x.passed(0), 0);
            due("7000 of 7999, quorum 88", x.passed(1), 0);
            due("7000 of 7999, quorum 87", x.passed(2), 1);
        });
        says("(in KIND 3 the WEIGHTS of ACCOUNTS with a VOTE)", "one of no strength counts, one spoken for does not",
            () -> {
                VoteAuctions x = withAccounts(30, 0, 20, 0, 50, 0);
                x.question(3, 2, 1, 0, 50);
                x.question(3, 2, 1, 0, 51);
                x.speak(2, 0);
                for (int q = 0; q < 2; q++) {
                    x.vote(q, 0, 1);
                    x.vote(q, 1, 0);
                }
                x.tick(1);
                due("passed, quorum 50", x.passed(0), 1);
                due("passed, quorum 51", x.passed(1), 0);
            });
    }

    // ---- the promises

    private void question() {
        section("Promise 10");
        says("KIND 0 .. 3", "the last that is taken, the first that is refused", () -> dueRange(0, 0, 3));
        says("CHOICES 2 .. 4", "the last that is taken, the first that is refused", () -> dueRange(1, 2, 4));
        says("SHUT so many heights from now (1 .. 50)", "the last that is taken, the first that is refused",
            () -> dueRange(2, 1, 50));
        says("END so many behind that (0 .. 20)", "the last that is taken, the first that is refused",
            () -> dueRange(3, 0, 20));
        says("QUORUM 0 .. 100", "the last that is taken, the first that is refused", () -> dueRange(4, 0, 100));
        says("SHUT so many heights from now", "1 and 50, from a height above 0", () -> {
            for (int shut : new int[] {1, 50}) {
                VoteAuctions x = withAccounts(5, 0);
                x.tick(9);
                x.question(0, 2, shut, 0, 0);
                x.tick(shut - 1);
                due("vote one below", x.vote(0, 0, 0), 1);
                x.tick(1);
                due("vote at it", x.vote(0, 0, 0), -3);
            }
        });
        says("END so many behind that", "0, 1 and 20, from a height above 0", () -> {
            for (int more : new int[] {0, 1, 20}) {
                VoteAuctions x = withAccounts(5, 0);
                x.tick(9);
                x.question(0, 2, 3, more, 0);
                for (int i = 0; i < 3 + more; i++) {
                    due("passed below END", x.passed(0), -3);
                    x.tick(1);
                }
                due("passed at END", x.passed(0), 0);
            }
        });
        says("its number", "a refused one takes none", () -> {
            VoteAuctions x = new VoteAuctions();
            due("question", x.question(0, 2, 1, 0, 0), 0);
            due("question of 5 choices", x.question(0, 5, 1, 0, 0), -2);
            due("question", x.question(0, 2, 1, 0, 0), 1);
        });
        says("-2, -4", "outside its bounds where there is no room", () -> {
            VoteAuctions x = new VoteAuctions();
            for (int i = 0; i < 6; i++) {
                x.question(0, 2, 1, 0, 0);
            }
            due("question of kind 4", x.question(4, 2, 1, 0, 0), -2);
            due("question of 1 choice", x.question(0, 1, 1, 0, 0), -2);
            due("question shut now", x.question(0, 2, 0, 0, 0), -2);
            due("question that ends too late", x.question(0, 2, 1, 21, 0), -2);
            due("question of quorum 101", x.question(0, 2, 1, 0, 101), -2);
            due("question", x.question(0, 2, 1, 0, 0), -4);
            x.tick(50);
            due("question, the others at their end", x.question(0, 2, 1, 0, 0), -4);
        });
    }

    private void dueRange(int place, int low, int high) {
        int[] usual = {0, 2, 1, 0, 0};
        for (int value : new int[] {low - 1, low, high, high + 1, Integer.MIN_VALUE, Integer.MAX_VALUE}) {
            int[] with = usual.clone();
            with[place] = value;
            VoteAuctions x = new VoteAuctions();
            int want = value < low || value > high ? -2 : 0;
            due("question, " + value, x.question(with[0], with[1], with[2], with[3], with[4]), want);
            due("winner", x.winner(0), want == 0 ? -3 : -1);
        }
    }

    private static VoteAuctions passedQuestion() {
        VoteAuctions x = withAccounts(5, 0);
        x.question(0, 2, 1, 0, 0);
        x.vote(0, 0, 0);
        x.tick(1);
        return x;
    }

    private void call() {
        section("Promise 11");
        says("Its CALL (in place of one before)", "account, sum and heights of the later one", () -> {
            VoteAuctions x = withAccounts(5, 60, 0, 0);
            x.question(0, 2, 1, 0, 0);
            x.vote(0, 0, 0);
            due("call", x.call(0, 0, 100000, 50), 1);
            due("call", x.call(0, 1, 60, 1), 1);
            x.auction(3, 1, 60, 0, 5);
            x.take(0, 0);
            x.tick(1);
            due("run below", x.run(0), -3);
            x.tick(1);
            due("run", x.run(0), 1);
            dueHolds(x, 0, 0, 0);
            dueHolds(x, 1, 60, 0);
            x.tick(50);
            due("run of the one before", x.run(0), -3);
        });
        says("to pay an ACCOUNT a sum (0 .. 100000)", "the last that is taken, the first that is refused", () -> {
            VoteAuctions x = withAccounts(5, 100001);
            x.question(0, 2, 1, 0, 0);
            x.question(0, 2, 1, 0, 0);
            for (int bad : new int[] {-1, 100001, Integer.MIN_VALUE, Integer.MAX_VALUE}) {
                due("call, sum " + bad, x.call(0, 0, bad, 0), -2);
            }
            due("call, sum 100000", x.call(0, 0, 100000, 0), 1);
            due("call, sum 0", x.call(1, 0, 0, 0), 1);
            x.vote(0, 0, 0);
            x.vote(1, 0, 0);
            for (int i = 0; i < 5; i++) {
                x.auction(0, 1, 10000, 0, 1);
                x.bid(i, 0, 1, 20000);
            }
            x.tick(1);
            due("run for 0", x.run(1), 1);
            due("pot()", x.pot(), 100000);
            due("run for all", x.run(0), 1);
            due("pot()", x.pot(), 0);
            dueHolds(x, 0, 100001, 0);
        });
        says("out of the POT", "from no account, to one that has no funds, and nothing when it is told", () -> {
            VoteAuctions x = withAccounts(5, 40, 0, 0);
            x.question(0, 2, 1, 0, 0);
            x.vote(0, 0, 0);
            x.auction(3, 1, 40, 0, 1);
            x.take(0, 0);
            due("call", x.call(0, 1, 40, 0), 1);
            due("pot() when it is told", x.pot(), 40);
            dueHolds(x, 1, 0, 0);
            x.tick(1);
            due("pot() at END", x.pot(), 40);
            due("run", x.run(0), 1);
            due("pot()", x.pot(), 0);
            dueHolds(x, 0, 0, 0);
            dueHolds(x, 1, 40, 0);
        });
        says("so many heights behind END at the earliest (0 .. 50)", "the last taken, the first refused", () -> {
            for (int lock : new int[] {0, 1, 50}) {
                VoteAuctions x = withAccounts(5, 0);
                x.question(0, 2, 1, 2, 0);
                for (int bad : new int[] {-1, 51, Integer.MIN_VALUE, Integer.MAX_VALUE}) {
                    due("call, " + bad + " heights", x.call(0, 0, 0, bad), -2);
                }
                due("call, " + lock + " heights", x.call(0, 0, 0, lock), 1);
                x.hide(0, 0, x.mark(0, 0, 0));
                x.tick(1);
                x.reveal(0, 0, 0, 0);
                for (int height = 1; height < 3 + lock; height++) {
                    due("run at " + height, x.run(0), -3);
                    x.tick(1);
                }
                due("run, " + lock + " heights behind END", x.run(0), 1);
            }
        });
        says("-1 (either), -2", "no question, no account, both, outside bounds too", () -> {
            VoteAuctions x = withAccounts(5, 0);
            x.question(0, 2, 1, 0, 0);
            for (int no : new int[] {1, 6, 8, -1, Integer.MIN_VALUE, Integer.MAX_VALUE}) {
                due("call of question " + no, x.call(no, 0, -1, 0), -1);
                due("call for account " + no, x.call(0, no, 0, 51), -1);
                due("call of " + no + " for it", x.call(no, no, 0, 0), -1);
            }
        });
        says("-3 HEIGHT is SHUT or more", "one below, at it, between SHUT and END, outside bounds there", () -> {
            VoteAuctions x = withAccounts(5, 0);
            x.question(0, 2, 2, 2, 0);
            x.tick(1);
            due("call one below", x.call(0, 0, 0, 0), 1);
            x.tick(1);
            due("call at it", x.call(0, 0, 1, 0), -3);
            due("call at it, sum -1", x.call(0, 0, -1, 0), -2);
            due("call at it, no account", x.call(0, 1, 0, 0), -1);
            x.tick(1);
            due("call above it", x.call(0, 0, 1, 0), -3);
            x.tick(1);
            due("call at END", x.call(0, 0, 1, 0), -3);
        });
    }

    private void vote() {
        section("Promise 12");
        says("An ACCOUNT's VOTE (in place of one before)", "the same, another", () -> {
            VoteAuctions x = withAccounts(5, 0);
            x.question(0, 2, 1, 0, 0);
            due("vote", x.vote(0, 0, 0), 1);
            due("vote, the same", x.vote(0, 0, 0), 1);
            due("count", x.count(0, 0), 5);
            due("vote, another", x.vote(0, 0, 1), 1);
            due("count of the one before", x.count(0, 0), 0);
            due("count", x.count(0, 1), 5);
        });
        says("-1: it has none any more", "in each KIND, with one and without, and its SPEAKER's counts", () -> {
            for (int kind = 0; kind < 4; kind++) {
                VoteAuctions x = withAccounts(5, 0, 6, 0);
                x.question(kind, 2, 1, 0, 0);
                x.speak(0, 1);
                due("vote -1 without one", x.vote(0, 0, -1), 1);
                x.vote(0, 0, voteFor(kind, 0, 1));
                x.vote(0, 1, voteFor(kind, 1, 1));
                due("vote -1", x.vote(0, 0, -1), 1);
                due("count of the one before", x.count(0, 0), 0);
                due("count of the speaker's", x.count(0, 1), kind == 3 ? 1 : 11);
                due("vote -1 of the last", x.vote(0, 1, -1), 1);
                due("winner", x.winner(0), -3);
            }
        });
        says("-1 (either), -2 it is none", "no question, no account, both, with what is no VOTE too", () -> {
            VoteAuctions x = withAccounts(5, 0);
            x.question(0, 2, 1, 0, 0);
            for (int no : new int[] {1, 6, 8, -1, Integer.MIN_VALUE, Integer.MAX_VALUE}) {
                due("vote in " + no, x.vote(no, 0, 2), -1);
                due("vote of " + no, x.vote(0, no, 2), -1);
                due("vote in " + no + " of it", x.vote(no, no, 0), -1);
                due("no vote in " + no, x.vote(no, 0, -1), -1);
                due("no vote of " + no, x.vote(0, no, -1), -1);
            }
            due("vote of the first that is none", x.vote(0, 0, 2), -2);
            due("vote of -2", x.vote(0, 0, -2), -2);
        });
        says("-3 HEIGHT is SHUT or more, or it is HIDDEN", "each, also with -1 and with what is no VOTE", () -> {
            VoteAuctions x = withAccounts(5, 0);
            x.question(0, 2, 1, 0, 0);
            x.question(0, 2, 1, 1, 0);
            due("vote in a hidden one", x.vote(1, 0, 0), -3);
            due("vote -1 in a hidden one", x.vote(1, 0, -1), -3);
            due("what is none in a hidden one", x.vote(1, 0, 2), -2);
            x.vote(0, 0, 0);
            x.tick(1);
            due("vote at SHUT", x.vote(0, 0, 1), -3);
            due("vote -1 at SHUT", x.vote(0, 0, -1), -3);
            due("what is none at SHUT", x.vote(0, 0, 2), -2);
            due("vote in a hidden one at SHUT", x.vote(1, 0, 0), -3);
            due("count", x.count(0, 0), 5);
            due("count of the hidden one", x.count(1, 0), 0);
        });
    }

    private void hide() {
        section("Promise 13");
        says("An ACCOUNT's MARK (in place of one before)", "the later one alone is opened", () -> {
            VoteAuctions x = withAccounts(5, 0);
            x.question(0, 2, 1, 1, 0);
            due("hide", x.hide(0, 0, x.mark(0, 0, 1)), 1);
            due("hide in place of it", x.hide(0, 0, x.mark(0, 1, 1)), 1);
            x.tick(1);
            due("reveal of the one before", x.reveal(0, 0, 0, 1), -3);
            due("reveal", x.reveal(0, 0, 1, 1), 1);
        });
        says("An ACCOUNT's MARK", "any 64 bits, 0 too", () -> {
            VoteAuctions x = withAccounts(5, 0, 6, 0);
            x.question(0, 2, 1, 1, 0);
            for (long mark : new long[] {Long.MIN_VALUE, Long.MAX_VALUE, -1, -3, 0}) {
                due("hide of " + mark, x.hide(0, 0, mark), 1);
            }
            x.tick(1);
            due("reveal of the mark 0", x.reveal(0, 0, 0, 0), 1);
            due("reveal of no mark", x.reveal(0, 1, 0, 0), -3);
        });
        says("-1 (either)", "no question, no account, both", () -> {
            VoteAuctions x = withAccounts(5, 0);
            x.question(0, 2, 1, 1, 0);
            for (int no : new int[] {1, 6, 8, -1, Integer.MIN_VALUE, Integer.MAX_VALUE}) {
                due("hide in " + no, x.hide(no, 0, 1), -1);
                due("hide of " + no, x.hide(0, no, 1), -1);
                due("hide in " + no + " of it", x.hide(no, no, 1), -1);
            }
        });
        says("-3 HEIGHT is SHUT or more, or it is not HIDDEN", "each, and no account there", () -> {
            VoteAuctions x = withAccounts(5, 0);
            x.question(0, 2, 2, 1, 0);
            x.question(0, 2, 2, 0, 0);
            due("hide in an open one", x.hide(1, 0, 1), -3);
            due("hide in an open one, no account", x.hide(1, 1, 1), -1);
            x.tick(1);
            due("hide one below", x.hide(0, 0, x.mark(0, 1, 4)), 1);
            x.tick(1);
            due("hide at it", x.hide(0, 0, 1), -3);
            due("hide at it, no account", x.hide(0, 1, 1), -1);
            due("hide in an open one at it", x.hide(1, 0, 1), -3);
            due("the mark that stays", x.reveal(0, 0, 1, 4), 1);
        });
    }

    private void reveal() {
        section("Promise 14");
        says("An ACCOUNT's MARK is opened: 1", "marks that wrap, by salts at the edges", () -> {
            for (int salt : new int[] {0, 1, -1, Integer.MAX_VALUE, Integer.MIN_VALUE}) {
                VoteAuctions x = withAccounts(5, 0, 6, 0);
                x.question(0, 2, 1, 1, 0);
                x.hide(0, 1, x.mark(1, 1, salt));
                x.tick(1);
                due("reveal, one salt more", x.reveal(0, 1, 1, salt + 1), -3);
                due("reveal, salt " + salt, x.reveal(0, 1, 1, salt), 1);
                due("count", x.count(0, 1), 6);
            }
        });
        says("-1 (either), -2 v is no VOTE", "no question, no account, both, with what is no VOTE too", () -> {
            VoteAuctions x = withAccounts(5, 0);
            x.question(0, 2, 1, 1, 0);
            x.tick(1);
            for (int no : new int[] {1, 6, 8, -1, Integer.MIN_VALUE, Integer.MAX_VALUE}) {
                due("reveal in " + no, x.reveal(no, 0, 2, 0), -1);
                due("reveal of " + no, x.reveal(0, no, 2, 0), -1);
                due("reveal in " + no + " of it", x.reveal(no, no, 0, 0), -1);
            }
        });
        says("-2 v is no VOTE", "-1 is none here, and it comes before each state", () -> {
            VoteAuctions x = withAccounts(5, 0);
            x.question(0, 2, 1, 1, 0);
            x.question(0, 2, 1, 0, 0);
            x.hide(0, 0, x.mark(0, -1, 0));
            due("reveal in an open one", x.reveal(1, 0, 2, 0), -2);
            due("reveal below SHUT", x.reveal(0, 0, 2, 0), -2);
            x.tick(1);
            due("reveal of -1 with its mark", x.reveal(0, 0, -1, 0), -2);
            x.tick(1);
            due("reveal at END", x.reveal(0, 0, 2, 0), -2);
        });
        says("-3 it is not HIDDEN", "before and after its SHUT", () -> {
            VoteAuctions x = withAccounts(5, 0);
            x.question(0, 2, 1, 0, 0);
            due("reveal below", x.reveal(0, 0, 0, 0), -3);
            x.tick(1);
            due("reveal at it", x.reveal(0, 0, 0, 0), -3);
        });
        says("HEIGHT is below SHUT, or END or more", "one below SHUT, at it, one below END, at END", () -> {
            VoteAuctions x = withAccounts(5, 0);
            x.question(0, 2, 2, 20, 0);
            x.hide(0, 0, x.mark(0, 0, 0));
            x.tick(1);
            due("reveal one below SHUT", x.reveal(0, 0, 0, 0), -3);
            x.tick(20);
            due("reveal one below END", x.reveal(0, 0, 0, 0), 1);
            VoteAuctions y = withAccounts(5, 0);
            y.question(0, 2, 2, 1, 0);
            y.hide(0, 0, y.mark(0, 0, 0));
            y.tick(3);
            due("reveal at END", y.reveal(0, 0, 0, 0), -3);
            due("count", y.count(0, 0), 0);
        });
        says("there is a VOTE already", "the same again", () -> {
            VoteAuctions x = withAccounts(5, 0);
            x.question(3, 2, 1, 2, 0);
            x.hide(0, 0, x.mark(0, 0, 0));
            x.tick(1);
            due("reveal", x.reveal(0, 0, 0, 0), 1);
            due("reveal again", x.reveal(0, 0, 0, 0), -3);
        });
        says("no MARK, or it is not THE MARK of account, v, salt", "each of the three, another's mark", () -> {
            VoteAuctions x = withAccounts(5, 0, 6, 0, 7, 0);
            x.question(0, 3, 1, 1, 0);
            x.hide(0, 0, x.mark(0, 1, 4));
            x.hide(0, 1, x.mark(0, 1, 4));
            x.tick(1);
            due("reveal without a mark", x.reveal(0, 2, 1, 4), -3);
            due("reveal of another's mark", x.reveal(0, 1, 1, 4), -3);
            due("reveal, another vote", x.reveal(0, 0, 2, 4), -3);
            due("reveal, another salt", x.reveal(0, 0, 1, 5), -3);
            due("reveal after all these", x.reveal(0, 0, 1, 4), 1);
            due("count of 1", x.count(0, 1), 5);
        });
    }

    private void countAndFallen() {
        section("Promise 15");
        says("What a CHOICE has, COUNTED now", "before, between and after, with and without a VOTE", () -> {
            VoteAuctions x = withAccounts(5, 0);
            x.question(0, 2, 1, 0, 0);
            due("count before", x.count(0, 0), 0);
            x.vote(0, 0, 0);
            due("count between", x.count(0, 0), 5);
            x.tick(1);
            due("count after", x.count(0, 0), 5);
        });
        says("COUNTED now", "questions of every KIND by turns, nothing of one stays in another", () -> {
            VoteAuctions x = withAccounts(9, 0);
            for (int kind = 0; kind < 4; kind++) {
                x.question(kind, 4, 1, 0, 0);
                x.vote(kind, 0, voteFor(kind, kind, 3));
            }
            x.question(0, 4, 1, 0, 0);
            for (int choice = 0; choice < 4; choice++) {
                for (int kind = 0; kind < 4; kind++) {
                    int has = kind == 3 ? 3 : 9;
                    due("count, kind " + kind, x.count(kind, choice), choice == kind ? has : 0);
                    due("count without a vote", x.count(4, choice), 0);
                }
            }
        });
        says("-1 (either)", "no question, no choice, both", () -> {
            VoteAuctions x = withAccounts(5, 0);
            x.question(0, 3, 1, 0, 0);
            for (int no : NO_NUMBERS) {
                due("count in " + no, x.count(no, 0), -1);
                due("count of " + no, x.count(0, no), -1);
                due("count in and of " + no, x.count(no, no), -1);
            }
            due("count in the first that is not there", x.count(1, 0), -1);
            due("count in a seventh", x.count(6, 0), -1);
            due("count of the last choice", x.count(0, 2), 0);
            due("count of one more", x.count(0, 3), -1);
        });
        section("Promise 16");
        says("The CHOICE that FELL in ROUND k, from 0", "the first, the last, below, above", () -> {
            VoteAuctions x = ranked(4, new int[] {2, 2, 2, 2}, 1, 2, 3, 4);
            due("fallen in -1", x.fallen(0, -1), -1);
            due("fallen in 0", x.fallen(0, 0), 3);
            due("fallen in 1", x.fallen(0, 1), 2);
            due("fallen in 2", x.fallen(0, 2), 1);
            due("fallen in 3", x.fallen(0, 3), -1);
            due("fallen in 4", x.fallen(0, 4), -1);
            due("fallen in MIN", x.fallen(0, Integer.MIN_VALUE), -1);
            due("fallen in MAX", x.fallen(0, Integer.MAX_VALUE), -1);
        });
        says("COUNTED now", "another vote, another fall; none of an earlier counting stays", () -> {
            VoteAuctions x = ranked(3, new int[] {4, 3, 2}, 1, 2, 3);
            due("fallen", x.fallen(0, 0), 2);
            x.vote(0, 1, 3);
            due("fallen after another vote", x.fallen(0, 0), -1);
            x.vote(0, 1, -1);
            x.vote(0, 0, -1);
            x.vote(0, 2, -1);
            due("fallen without a vote", x.fallen(0, 1), 1);
        });
        says("-1 (QUESTION), -3 another KIND", "no question; each other KIND, with a ROUND or without", () -> {
            VoteAuctions x = withAccounts(5, 0);
            for (int kind = 0; kind < 4; kind++) {
                x.question(kind, 3, 1, 0, 0);
            }
            for (int kind : new int[] {0, 1, 3}) {
                for (int k : new int[] {0, 2, -1, Integer.MAX_VALUE}) {
                    due("fallen, kind " + kind, x.fallen(kind, k), -3);
                }
            }
            for (int no : new int[] {4, 6, -1, Integer.MIN_VALUE, Integer.MAX_VALUE}) {
                due("fallen of " + no, x.fallen(no, 0), -1);
            }
        });
        says("-1 none FELL in it", "in the last ROUND", () -> {
            VoteAuctions x = ranked(3, new int[] {4, 3, 2}, 1, 2, 3);
            due("fallen in 0", x.fallen(0, 0), 2);
            due("fallen in the last", x.fallen(0, 1), -1);
            VoteAuctions y = ranked(3, new int[] {4}, 1);
            due("fallen where the first is the last", y.fallen(0, 0), -1);
        });
    }

    private void winnerAndPassed() {
        section("Promise 17");
        says("THE WINNER, COUNTED now", "another vote, another winner", () -> {
            VoteAuctions x = withAccounts(5, 0, 4, 0);
            x.question(0, 2, 1, 0, 0);
            x.vote(0, 1, 1);
            due("winner", x.winner(0), 1);
            x.vote(0, 0, 0);
            due("winner after another vote", x.winner(0), 0);
            x.vote(0, 0, -1);
            due("winner without it", x.winner(0), 1);
        });
        says("-1, -3 none", "no question, no vote", () -> {
            VoteAuctions x = withAccounts(5, 0);
            x.question(0, 2, 1, 0, 0);
            for (int no : new int[] {1, 6, -1, Integer.MIN_VALUE, Integer.MAX_VALUE}) {
                due("winner of " + no, x.winner(no), -1);
            }
            due("winner", x.winner(0), -3);
            x.vote(0, 0, 1);
            x.vote(0, 0, -1);
            due("winner of a vote taken back", x.winner(0), -3);
        });
        section("Promise 18");
        says("Whether it is PASSED: 1 or 0", "both, as it was at END whatever comes later", () -> {
            VoteAuctions x = withAccounts(50, 0, 50, 0);
            x.question(0, 2, 1, 0, 51);
            x.question(0, 2, 1, 0, 50);
            x.vote(0, 0, 0);
            x.vote(1, 0, 0);
            x.tick(1);
            due("passed(0)", x.passed(0), 0);
            due("passed(1)", x.passed(1), 1);
            x.speak(1, 0);
            x.weigh(1, 0);
            due("passed(0) later", x.passed(0), 0);
            due("passed(1) later", x.passed(1), 1);
        });
        says("-1, -3 HEIGHT is below END", "no question; one below END of an open and of a hidden one", () -> {
            VoteAuctions x = withAccounts(5, 0);
            x.question(0, 2, 3, 0, 0);
            x.question(0, 2, 3, 1, 0);
            for (int no : new int[] {2, 6, -1, Integer.MIN_VALUE, Integer.MAX_VALUE}) {
                due("passed of " + no, x.passed(no), -1);
            }
            due("passed now", x.passed(0), -3);
            x.tick(2);
            due("passed one below", x.passed(0), -3);
            x.tick(1);
            due("passed at END", x.passed(0), 0);
            due("passed at SHUT, one below END", x.passed(1), -3);
            x.tick(1);
            due("passed at END", x.passed(1), 0);
        });
    }

    private void run() {
        section("Promise 19");
        says("Its CALL is run: 1", "of several questions each its own, to an account that came later", () -> {
            VoteAuctions x = withAccounts(5, 30);
            x.question(0, 2, 1, 0, 0);
            x.question(0, 2, 1, 0, 0);
            x.account(0, 0);
            x.call(0, 0, 10, 0);
            x.call(1, 1, 20, 0);
            x.vote(0, 0, 0);
            x.vote(1, 0, 0);
            x.auction(3, 1, 30, 0, 2);
            x.take(0, 0);
            x.tick(1);
            due("run(1)", x.run(1), 1);
            due("run(0)", x.run(0), 1);
            dueHolds(x, 0, 10, 0);
            dueHolds(x, 1, 20, 0);
            due("pot()", x.pot(), 0);
        });
        says("-1, -3 it is not PASSED", "no question; WINNER 1, no WINNER, below the QUORUM, below END", () -> {
            VoteAuctions x = withAccounts(5, 0, 6, 0);
            x.question(0, 2, 1, 0, 0);
            x.question(0, 2, 1, 0, 0);
            x.question(0, 2, 1, 0, 46);
            x.question(0, 2, 1, 1, 0);
            x.question(0, 2, 1, 0, 45);
            for (int q = 0; q < 5; q++) {
                x.call(q, 0, 0, 0);
            }
            x.vote(0, 0, 1);
            x.vote(2, 0, 0);
            x.vote(4, 0, 0);
            x.hide(3, 0, x.mark(0, 0, 0));
            for (int no : new int[] {5, 6, -1, Integer.MIN_VALUE, Integer.MAX_VALUE}) {
                due("run of " + no, x.run(no), -1);
            }
            x.tick(1);
            x.reveal(3, 0, 0, 0);
            due("run, winner 1", x.run(0), -3);
            due("run, no winner", x.run(1), -3);
            due("run, below the quorum", x.run(2), -3);
            due("run, below END", x.run(3), -3);
            due("run, at the quorum", x.run(4), 1);
            x.tick(1);
            due("run, at END", x.run(3), 1);
        });
        says("has no CALL", "a PASSED one", () -> due("run(0)", passedQuestion().run(0), -3));
        says("was run", "at once, and much later", () -> {
            VoteAuctions x = withAccounts(5, 20);
            x.question(0, 2, 1, 0, 0);
            x.call(0, 0, 10, 0);
            x.vote(0, 0, 0);
            x.auction(3, 1, 20, 0, 2);
            x.take(0, 0);
            x.tick(1);
            due("run", x.run(0), 1);
            due("run again", x.run(0), -3);
            x.tick(50);
            due("run much later", x.run(0), -3);
            dueHolds(x, 0, 10, 0);
            due("pot()", x.pot(), 10);
        });
        says("HEIGHT is below END and the CALL's heights", "one below, at it", () -> {
            VoteAuctions x = withAccounts(5, 0);
            x.question(0, 2, 1, 0, 0);
            x.call(0, 0, 0, 3);
            x.vote(0, 0, 0);
            x.tick(3);
            due("run one below", x.run(0), -3);
            x.tick(1);
            due("run at it", x.run(0), 1);
        });
        says("or there is less in the POT", "one less, as much; nothing and 0", () -> {
            VoteAuctions x = withAccounts(5, 20);
            x.question(0, 2, 1, 0, 0);
            x.question(0, 2, 1, 0, 0);
            x.call(0, 0, 20, 0);
            x.call(1, 0, 0, 0);
            x.vote(0, 0, 0);
            x.vote(1, 0, 0);
            x.auction(3, 1, 19, 0, 9);
            x.auction(3, 1, 1, 0, 9);
            x.tick(1);
            due("run for 0 of 0", x.run(1), 1);
            due("run for 20 of 0", x.run(0), -3);
            x.take(0, 0);
            due("run for 20 of 19", x.run(0), -3);
            due("pot()", x.pot(), 19);
            x.take(1, 0);
            due("run for 20 of 20", x.run(0), 1);
            due("pot()", x.pot(), 0);
            dueHolds(x, 0, 20, 0);
        });
    }

    public static void main(String[] args) throws IOException {
        QuestionBoundaryTests tests = new QuestionBoundaryTests();
        tests.termsOfQuestions();
        tests.question();
        tests.call();
        tests.vote();
        tests.hide();
        tests.reveal();
        tests.countAndFallen();
        tests.winnerAndPassed();
        tests.run();
        tests.end();
    }
}
