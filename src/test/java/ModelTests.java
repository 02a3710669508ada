import java.util.ArrayList;
import java.util.Collections;
import java.util.Comparator;
import java.util.HashMap;
import java.util.HashSet;
import java.util.LinkedHashMap;
import java.util.List;
import java.util.Map;
import java.util.Random;
import java.util.Set;

/** Seeded runs of calls, each answer against a second model that is written with the Java library. */
public final class ModelTests {
    private static final int RUNS = 4000;
    private static final int CALLS = 512;

    static final class Person {
        int weight;
        long funds;
        Integer speaker;
    }

    static final class Ask {
        int kind, choices, shut, end, quorum, callTo, callSum, callLock;
        boolean called, ran;
        List<Integer> weights = new ArrayList<>();
        Map<Integer, Integer> votes = new HashMap<>();
        Map<Integer, Long> marks = new HashMap<>();
        Map<Integer, Integer> frozen;

        int weight(int account) {
            return account < weights.size() ? weights.get(account) : 0;
        }

        int total() {
            return weights.stream().mapToInt(Integer::intValue).sum();
        }
    }

    record Bid(int account, int units, int price) { }

    static final class Sale {
        int kind, units, least, step, shut, end;
        // in the order in which they were told
        final List<Bid> bids = new ArrayList<>();
        final LinkedHashMap<Integer, Long> marks = new LinkedHashMap<>();
        final Map<Integer, Integer> opened = new HashMap<>();
        final Map<Integer, Integer> won = new HashMap<>();
        Integer paid;
    }

    static final class Model {
        int height;
        long pot;
        final List<Person> people = new ArrayList<>();
        final List<Ask> asks = new ArrayList<>();
        final List<Sale> sales = new ArrayList<>();

        boolean in(long v, long low, long high) {
            return low <= v && v <= high;
        }

        boolean person(int a) {
            return in(a, 0, people.size() - 1);
        }

        boolean ask(int q) {
            return in(q, 0, asks.size() - 1);
        }

        boolean sale(int s) {
            return in(s, 0, sales.size() - 1);
        }

        int account(int weight, int funds) {
            if (!in(weight, 0, 1000) || !in(funds, 0, 1000000)) return -2;
            if (people.size() == 8) return -4;
            Person p = new Person();
            p.weight = weight;
            p.funds = funds;
            people.add(p);
            return people.size() - 1;
        }

        int weigh(int a, int weight) {
            if (!person(a)) return -1;
            if (!in(weight, 0, 1000)) return -2;
            int was = people.get(a).weight;
            people.get(a).weight = weight;
            return was;
        }

        int fund(int a, int amount) {
            if (!person(a)) return -1;
            if (!in(amount, 0, 100000)) return -2;
            people.get(a).funds += amount;
            return 1;
        }

        int speak(int a, int other) {
            if (!person(a) || !person(other)) return -1;
            Integer was = people.get(a).speaker;
            people.get(a).speaker = a == other ? null : Integer.valueOf(other);
            return was == null ? a : was;
        }

        // What is set aside is told from the auctions that hold it, not kept as a sum.
        long aside(int a) {
            long sum = 0;
            for (Sale s : sales) {
                boolean sealed = s.kind == 1 || s.kind == 2;
                if (height >= s.end) continue;
                for (Bid b : s.bids) {
                    if (b.account() == a) sum += (long) b.units() * b.price();
                }
                if (sealed && s.marks.containsKey(a)) sum += s.opened.getOrDefault(a, s.least);
            }
            return sum;
        }

        long holds(int a, int what) {
            if (!person(a)) return -1;
            if (!in(what, 0, 2)) return -2;
            return what == 0 ? people.get(a).weight : what == 1 ? people.get(a).funds : aside(a);
        }

        int tick(int n) {
            if (!in(n, 0, 50)) return -2;
            for (int i = 0; i < n; i++) {
                height++;
                for (Ask q : asks) {
                    if (q.end != height) continue;
                    q.frozen = new HashMap<>();
                    for (int a = 0; a < people.size(); a++) {
                        if (people.get(a).speaker != null) q.frozen.put(a, people.get(a).speaker);
                    }
                }
                for (Sale s : sales) {
                    if (s.end == height) close(s);
                }
            }
            return height;
        }

        void close(Sale s) {
            if (s.kind == 0 && !s.bids.isEmpty()) {
                Bid b = s.bids.get(0);
                s.won.put(b.account(), 1);
                s.paid = b.price();
                pot += b.price();
            } else if (s.kind == 1 || s.kind == 2) {
                closeSealed(s);
            } else if (s.kind == 4) {
                closeMany(s);
            }
        }

        void closeSealed(Sale s) {
            List<Integer> order = new ArrayList<>(s.marks.keySet());
            order.removeIf(a -> !s.opened.containsKey(a));
            order.sort(Comparator.comparing(a -> -s.opened.get(a)));
            for (int a : s.marks.keySet()) {
                if (s.opened.containsKey(a)) people.get(a).funds += s.opened.get(a);
                else pot += s.least;
            }
            if (order.isEmpty()) return;
            int first = order.get(0);
            int pays = s.opened.get(first);
            if (s.kind == 2) {
                pays = s.least;
                if (order.size() > 1 && s.opened.get(order.get(1)) > s.least) pays = s.opened.get(order.get(1));
            }
            s.won.put(first, 1);
            s.paid = pays;
            people.get(first).funds -= pays;
            pot += pays;
        }

        void closeMany(Sale s) {
            List<Bid> order = new ArrayList<>(s.bids);
            order.sort(Comparator.comparing(b -> -b.price()));
            int left = s.units;
            for (Bid b : order) {
                people.get(b.account()).funds += (long) b.units() * b.price();
                int got = Math.min(left, b.units());
                if (got > 0) {
                    s.won.put(b.account(), got);
                    s.paid = b.price();
                    left -= got;
                }
            }
            s.won.forEach((a, got) -> {
                people.get(a).funds -= (long) got * s.paid;
                pot += (long) got * s.paid;
            });
        }

        static long mark(long x, long y, long z) {
            long t = x * 0x9E3779B97F4A7C15L + y;
            t ^= t >>> 31;
            t *= 0xBF58476D1CE4E5B9L;
            t += z;
            return t ^ t >>> 29;
        }

        int question(int kind, int choices, int shut, int more, int quorum) {
            if (!in(kind, 0, 3) || !in(choices, 2, 4) || !in(shut, 1, 50) || !in(more, 0, 20)
                || !in(quorum, 0, 100)) return -2;
            if (asks.size() == 6) return -4;
            Ask q = new Ask();
            q.kind = kind;
            q.choices = choices;
            q.shut = height + shut;
            q.end = q.shut + more;
            q.quorum = quorum;
            for (Person p : people) q.weights.add(p.weight);
            asks.add(q);
            return asks.size() - 1;
        }

        int call(int n, int a, int sum, int lock) {
            if (!ask(n) || !person(a)) return -1;
            if (!in(sum, 0, 100000) || !in(lock, 0, 50)) return -2;
            Ask q = asks.get(n);
            if (height >= q.shut) return -3;
            q.called = true;
            q.callTo = a;
            q.callSum = sum;
            q.callLock = lock;
            return 1;
        }

        static List<Integer> digits(int v, int base) {
            List<Integer> digits = new ArrayList<>();
            for (int rest = v; rest > 0; rest /= base) digits.add(rest % base);
            return digits;
        }

        boolean isVote(Ask q, int a, int v) {
            if (v < 0) return false;
            if (q.kind == 0) return v < q.choices;
            if (q.kind == 1) return v > 0 && v < Math.pow(2, q.choices);
            if (q.kind == 2) {
                List<Integer> ranks = digits(v, 8);
                Set<Integer> unlike = new HashSet<>(ranks);
                return !ranks.isEmpty() && unlike.size() == ranks.size()
                    && ranks.stream().allMatch(d -> d >= 1 && d <= q.choices);
            }
            List<Integer> strengths = digits(v, 32);
            return strengths.size() <= q.choices
                && strengths.stream().mapToInt(d -> d * d).sum() <= q.weight(a);
        }

        int vote(int n, int a, int v) {
            if (!ask(n) || !person(a)) return -1;
            Ask q = asks.get(n);
            if (v != -1 && !isVote(q, a, v)) return -2;
            if (height >= q.shut || q.end > q.shut) return -3;
            if (v == -1) q.votes.remove(a);
            else q.votes.put(a, v);
            return 1;
        }

        int hide(int n, int a, long mark) {
            if (!ask(n) || !person(a)) return -1;
            Ask q = asks.get(n);
            if (height >= q.shut || q.end == q.shut) return -3;
            q.marks.put(a, mark);
            return 1;
        }

        int reveal(int n, int a, int v, int salt) {
            if (!ask(n) || !person(a)) return -1;
            Ask q = asks.get(n);
            if (!isVote(q, a, v)) return -2;
            if (q.end == q.shut || height < q.shut || height >= q.end || q.votes.containsKey(a)
                || !q.marks.containsKey(a) || q.marks.get(a) != mark(a, v, salt)) return -3;
            q.votes.put(a, v);
            return 1;
        }

        Integer speakerOf(Ask q, int a) {
            return height >= q.end ? q.frozen.get(a) : people.get(a).speaker;
        }

        Integer voice(Ask q, int account) {
            Set<Integer> seen = new HashSet<>();
            Integer a = account;
            while (a != null && seen.add(a)) {
                if (q.votes.containsKey(a)) return q.votes.get(a);
                if (q.kind == 3) return null;
                a = speakerOf(q, a);
            }
            return null;
        }

        // the last of the rows is what is counted; fell has who fell, round by round
        List<int[]> rounds(Ask q, List<Integer> fell) {
            List<int[]> rounds = new ArrayList<>();
            Set<Integer> in = new HashSet<>();
            for (int c = 0; c < q.choices; c++) in.add(c);
            while (true) {
                int[] has = new int[q.choices];
                for (int a = 0; a < people.size(); a++) {
                    Integer v = voice(q, a);
                    if (v == null) continue;
                    for (int digit : digits(v, 8)) {
                        if (in.contains(digit - 1)) {
                            has[digit - 1] += q.weight(a);
                            break;
                        }
                    }
                }
                rounds.add(has);
                int all = 0;
                for (int h : has) all += h;
                boolean last = in.size() == 1;
                for (int h : has) last |= h > all / 2.0;
                if (last) return rounds;
                int least = in.stream().min(Comparator.comparing((Integer c) -> has[c])
                    .thenComparing(c -> -c)).get();
                in.remove(least);
                fell.add(least);
            }
        }

        int[] counted(Ask q) {
            if (q.kind == 2) {
                List<int[]> rounds = rounds(q, new ArrayList<>());
                return rounds.get(rounds.size() - 1);
            }
            int[] has = new int[q.choices];
            for (int a = 0; a < people.size(); a++) {
                Integer v = voice(q, a);
                if (v == null) continue;
                List<Integer> d = q.kind == 1 ? digits(v, 2) : q.kind == 3 ? digits(v, 32) : List.of();
                for (int i = 0; i < d.size(); i++) has[i] += d.get(i) * (q.kind == 1 ? q.weight(a) : 1);
                if (q.kind == 0) has[v] += q.weight(a);
            }
            return has;
        }

        int count(int n, int choice) {
            if (!ask(n) || !in(choice, 0, asks.get(n).choices - 1)) return -1;
            return counted(asks.get(n))[choice];
        }

        int fallen(int n, int k) {
            if (!ask(n)) return -1;
            if (asks.get(n).kind != 2) return -3;
            List<Integer> fell = new ArrayList<>();
            rounds(asks.get(n), fell);
            return in(k, 0, fell.size() - 1) ? fell.get(k) : -1;
        }

        int winner(int n) {
            if (!ask(n)) return -1;
            Ask q = asks.get(n);
            int[] first = q.kind == 2 ? rounds(q, new ArrayList<>()).get(0) : counted(q);
            int any = 0;
            for (int h : first) any += h;
            if (any == 0) return -3;
            int[] has = counted(q);
            int best = 0;
            for (int c = 0; c < has.length; c++) if (has[c] > has[best]) best = c;
            return best;
        }

        int passed(int n) {
            if (!ask(n)) return -1;
            Ask q = asks.get(n);
            if (height < q.end) return -3;
            int given = 0;
            for (int a = 0; a < people.size(); a++) if (voice(q, a) != null) given += q.weight(a);
            return winner(n) == 0 && given * 100 >= q.quorum * q.total() ? 1 : 0;
        }

        int run(int n) {
            if (!ask(n)) return -1;
            Ask q = asks.get(n);
            if (passed(n) != 1 || !q.called || q.ran || height < q.end + q.callLock || pot < q.callSum) return -3;
            q.ran = true;
            pot -= q.callSum;
            people.get(q.callTo).funds += q.callSum;
            return 1;
        }

        int auction(int kind, int units, int least, int step, int heights) {
            if (!in(kind, 0, 4) || !in(units, 1, 20) || kind != 4 && units != 1 || !in(least, 1, 10000)
                || !in(step, 0, 1000) || !in(heights, 1, 50)) return -2;
            if (sales.size() == 6) return -4;
            Sale s = new Sale();
            s.kind = kind;
            s.units = units;
            s.least = least;
            s.step = step;
            s.shut = height + heights;
            s.end = s.shut + (kind == 1 || kind == 2 ? 5 : 0);
            sales.add(s);
            return sales.size() - 1;
        }

        int bid(int n, int a, int units, int price) {
            if (!sale(n) || !person(a)) return -1;
            Sale s = sales.get(n);
            if (!in(units, 1, s.units) || !in(price, s.least, 1000000)) return -2;
            if (s.kind != 0 && s.kind != 4 || height >= s.end) return -3;
            if (s.kind == 0 && !s.bids.isEmpty() && price - s.bids.get(0).price() < s.step) return -3;
            long own = 0;
            for (Bid b : s.bids) if (b.account() == a) own += (long) b.units() * b.price();
            if (people.get(a).funds + own < (long) units * price) return -3;
            for (Bid b : new ArrayList<>(s.bids)) {
                if (s.kind == 0 || b.account() == a) {
                    people.get(b.account()).funds += (long) b.units() * b.price();
                    s.bids.remove(b);
                }
            }
            s.bids.add(new Bid(a, units, price));
            people.get(a).funds -= (long) units * price;
            return 1;
        }

        int seal(int n, int a, long mark) {
            if (!sale(n) || !person(a)) return -1;
            Sale s = sales.get(n);
            if (s.kind != 1 && s.kind != 2 || height >= s.shut) return -3;
            if (s.marks.remove(a) == null) {
                if (people.get(a).funds < s.least) return -3;
                people.get(a).funds -= s.least;
            }
            s.marks.put(a, mark);
            return 1;
        }

        int unseal(int n, int a, int price, int salt) {
            if (!sale(n) || !person(a)) return -1;
            Sale s = sales.get(n);
            if (!in(price, s.least, 1000000)) return -2;
            if (s.kind != 1 && s.kind != 2 || height < s.shut || height >= s.end || !s.marks.containsKey(a)
                || s.opened.containsKey(a) || s.marks.get(a) != mark(a, price, salt)
                || people.get(a).funds + s.least < price) return -3;
            s.opened.put(a, price);
            people.get(a).funds += s.least - price;
            return 1;
        }

        int take(int n, int a) {
            if (!sale(n) || !person(a)) return -1;
            Sale s = sales.get(n);
            if (s.kind != 3 || s.paid != null || height >= s.end) return -3;
            int now = s.least + s.step * (s.end - height);
            if (people.get(a).funds < now) return -3;
            people.get(a).funds -= now;
            pot += now;
            s.paid = now;
            s.won.put(a, 1);
            return now;
        }

        int price(int n) {
            if (!sale(n)) return -1;
            Sale s = sales.get(n);
            if (s.paid != null) return s.paid;
            if (s.kind == 0 && !s.bids.isEmpty()) return s.bids.get(0).price();
            if (s.kind == 3 && height < s.end) return s.least + s.step * (s.end - height);
            return -3;
        }

        int won(int n, int a) {
            return sale(n) && person(a) ? sales.get(n).won.getOrDefault(a, 0) : -1;
        }
    }

    /** Draws calls that often have a meaning: few numbers, marks that can be opened, edges of bounds. */
    static final class Player {
        final Random random;
        final VoteAuctions real = new VoteAuctions();
        final Model model = new Model();
        final List<int[]> hidden = new ArrayList<>();
        final List<int[]> sealed = new ArrayList<>();
        final List<String> told = new ArrayList<>();
        final int[] seen;
        long added = 0;
        long wrong = 0;

        Player(long seed, int[] seen) {
            random = new Random(seed);
            this.seen = seen;
        }

        int upTo(int n) {
            return random.nextInt(n + 1);
        }

        int of(int... values) {
            return values[random.nextInt(values.length)];
        }

        boolean rare() {
            return random.nextInt(30) == 0;
        }

        int number(int size) {
            return rare() ? of(-1, size, 8, 6, Integer.MIN_VALUE, Integer.MAX_VALUE) : upTo(Math.max(size - 1, 0));
        }

        int person() {
            return number(model.people.size());
        }

        int ask() {
            return number(model.asks.size());
        }

        int sale() {
            return number(model.sales.size());
        }

        int bound(int low, int high, int usualLow, int usualHigh) {
            if (rare()) return of(low, high, low - 1, high + 1, Integer.MIN_VALUE, Integer.MAX_VALUE);
            return usualLow + random.nextInt(usualHigh - usualLow + 1);
        }

        void due(int kind, String call, long got, long want) {
            told.add(call + " = " + got);
            seen[kind * 2 + (want < 0 ? 1 : 0)]++;
            if (got != want) {
                wrong++;
                System.out.println(String.join("\n", told));
                System.out.println(call + " answered " + got + ", due is " + want);
            }
        }

        int aVote(int question) {
            if (rare()) return of(-1, -2, 0, Integer.MAX_VALUE, Integer.MIN_VALUE, upTo(5000));
            if (!model.ask(question)) return upTo(3);
            Ask q = model.asks.get(question);
            if (q.kind == 0) return upTo(q.choices - 1);
            if (q.kind == 1) return 1 + upTo((1 << q.choices) - 2);
            if (q.kind == 3) return upTo(6) + 32 * upTo(6) + 1024 * upTo(q.choices > 2 ? 6 : 0)
                + 32768 * upTo(q.choices > 3 ? 6 : 0);
            List<Integer> ranks = new ArrayList<>();
            for (int c = 1; c <= q.choices; c++) ranks.add(c);
            Collections.shuffle(ranks, random);
            int v = 0;
            int many = 1 + upTo(q.choices - 1);
            for (int i = 0; i < many; i++) v = v * 8 + ranks.get(i);
            return v;
        }

        void step() {
            int kind = random.nextInt(32);
            if (kind >= 26) kind = of(7, 11, 12, 13, 20, 22);
            if (model.people.size() < 3) kind = 1;
            else if (random.nextInt(40) == 0) kind = of(1, 9, 19);
            switch (kind) {
                case 0, 1 -> makeAccount();
                case 2 -> { int a = person(), w = bound(0, 1000, 0, 60); due(2, "weigh(" + a + "," + w + ")", real.weigh(a, w), model.weigh(a, w)); }
                case 3 -> addFunds();
                case 4 -> { int a = person(), b = person(); due(4, "speak(" + a + "," + b + ")", real.speak(a, b), model.speak(a, b)); }
                case 5 -> { int a = person(), w = bound(0, 2, 0, 2); due(5, "holds(" + a + "," + w + ")", real.holds(a, w), model.holds(a, w)); }
                case 6 -> due(6, "pot()", real.pot(), model.pot);
                case 7 -> { int n = bound(0, 50, 0, 2); due(7, "tick(" + n + ")", real.tick(n), model.tick(n)); }
                case 8 -> { int x = random.nextInt(), y = random.nextInt(), z = random.nextInt(); due(8, "mark(" + x + "," + y + "," + z + ")", real.mark(x, y, z), Model.mark(x, y, z)); }
                case 9 -> makeQuestion();
                case 10 -> { int q = ask(), a = person(), s = bound(0, 100000, 0, 100), l = bound(0, 50, 0, 4); due(10, "call(" + q + "," + a + "," + s + "," + l + ")", real.call(q, a, s, l), model.call(q, a, s, l)); }
                case 11 -> { int q = ask(), a = person(), v = aVote(q); due(11, "vote(" + q + "," + a + "," + v + ")", real.vote(q, a, v), model.vote(q, a, v)); }
                case 12 -> hideOne();
                case 13 -> revealOne();
                case 14 -> { int q = ask(), c = bound(0, 3, 0, 3); due(14, "count(" + q + "," + c + ")", real.count(q, c), model.count(q, c)); }
                case 15 -> { int q = ask(), k = bound(0, 3, 0, 3); due(15, "fallen(" + q + "," + k + ")", real.fallen(q, k), model.fallen(q, k)); }
                case 16 -> { int q = ask(); due(16, "winner(" + q + ")", real.winner(q), model.winner(q)); }
                case 17 -> { int q = ask(); due(17, "passed(" + q + ")", real.passed(q), model.passed(q)); }
                case 18 -> { int q = ask(); due(18, "run(" + q + ")", real.run(q), model.run(q)); }
                case 19 -> makeAuction();
                case 20 -> { int s = sale(), a = person(), u = bound(1, 20, 1, manyUnits(s)), p = bound(1, 1000000, 1, 60); due(20, "bid(" + s + "," + a + "," + u + "," + p + ")", real.bid(s, a, u, p), model.bid(s, a, u, p)); }
                case 21 -> sealOne();
                case 22 -> unsealOne();
                case 23 -> { int s = sale(), a = person(); due(23, "take(" + s + "," + a + ")", real.take(s, a), model.take(s, a)); }
                case 24 -> { int s = sale(); due(24, "price(" + s + ")", real.price(s), model.price(s)); }
                default -> { int s = sale(), a = person(); due(25, "won(" + s + "," + a + ")", real.won(s, a), model.won(s, a)); }
            }
        }

        int manyUnits(int sale) {
            return model.sale(sale) && model.sales.get(sale).kind == 4 ? 6 : 1;
        }

        void makeAccount() {
            int w = bound(0, 1000, 0, 60), f = bound(0, 1000000, 0, 300);
            int want = model.account(w, f);
            if (want >= 0) added += f;
            due(1, "account(" + w + "," + f + ")", real.account(w, f), want);
        }

        void addFunds() {
            int a = person(), f = bound(0, 100000, 0, 50);
            int want = model.fund(a, f);
            if (want >= 0) added += f;
            due(3, "fund(" + a + "," + f + ")", real.fund(a, f), want);
        }

        void makeQuestion() {
            int k = bound(0, 3, 0, 3), c = bound(2, 4, 2, 4), s = bound(1, 50, 1, 12), m = bound(0, 20, 0, 1) * of(1, 8), q = bound(0, 100, 0, 60);
            due(9, "question(" + k + "," + c + "," + s + "," + m + "," + q + ")", real.question(k, c, s, m, q), model.question(k, c, s, m, q));
        }

        void makeAuction() {
            int k = bound(0, 4, 0, 4), u = bound(1, 20, 1, k == 4 ? 8 : 1), l = bound(1, 10000, 1, 30), s = bound(0, 1000, 0, 6), h = bound(1, 50, 1, 12);
            due(19, "auction(" + k + "," + u + "," + l + "," + s + "," + h + ")", real.auction(k, u, l, s, h), model.auction(k, u, l, s, h));
        }

        void hideOne() {
            int q = ask(), a = person(), v = aVote(q), salt = upTo(3);
            long m = Model.mark(a, v, salt);
            int want = model.hide(q, a, m);
            if (want == 1) hidden.add(new int[] {q, a, v, salt});
            due(12, "hide(" + q + "," + a + "," + m + ")", real.hide(q, a, m), want);
        }

        void revealOne() {
            int[] h = hidden.isEmpty() ? new int[] {ask(), person(), 0, 0} : hidden.get(upTo(hidden.size() - 1)).clone();
            if (rare()) h[upTo(3)] += of(-1, 1);
            due(13, "reveal(" + h[0] + "," + h[1] + "," + h[2] + "," + h[3] + ")", real.reveal(h[0], h[1], h[2], h[3]), model.reveal(h[0], h[1], h[2], h[3]));
        }

        void sealOne() {
            int s = sale(), a = person(), p = bound(1, 1000000, 1, 60), salt = upTo(3);
            long m = Model.mark(a, p, salt);
            int want = model.seal(s, a, m);
            if (want == 1) sealed.add(new int[] {s, a, p, salt});
            due(21, "seal(" + s + "," + a + "," + m + ")", real.seal(s, a, m), want);
        }

        void unsealOne() {
            int[] h = sealed.isEmpty() ? new int[] {sale(), person(), 30, 0} : sealed.get(upTo(sealed.size() - 1)).clone();
            if (rare()) h[upTo(3)] += of(-1, 1);
            due(22, "unseal(" + h[0] + "," + h[1] + "," + h[2] + "," + h[3] + ")", real.unseal(h[0], h[1], h[2], h[3]), model.unseal(h[0], h[1], h[2], h[3]));
        }

        void everythingAgrees() {
            long sum = real.pot();
            for (int a = 0; a < model.people.size(); a++) {
                for (int what = 0; what < 3; what++) {
                    due(5, "holds(" + a + "," + what + ")", real.holds(a, what), model.holds(a, what));
                }
                sum += real.holds(a, 1) + real.holds(a, 2);
            }
            due(6, "all funds", sum, added);
        }
    }

    public static void main(String[] args) {
        int[] seen = new int[52];
        for (int run = 0; run < RUNS; run++) {
            Player player = new Player(run, seen);
            for (int i = 0; i < CALLS && player.wrong == 0; i++) {
                player.step();
                if (i % 8 == 0) player.everythingAgrees();
            }
            if (player.wrong != 0) {
                System.out.println("run " + run + " of the model failed");
                System.exit(1);
            }
        }
        for (int kind = 1; kind < 26; kind++) {
            if (seen[kind * 2] < 300) {
                System.out.println("call " + kind + " was hardly ever answered: " + seen[kind * 2]);
                System.exit(1);
            }
        }
        System.out.println("the model agrees");
    }
}
