import java.math.BigInteger;
import java.util.ArrayList;
import java.util.Arrays;
import java.util.HashMap;
import java.util.List;
import java.util.Map;
import java.util.Objects;
import java.util.Random;
import java.util.concurrent.Callable;

/** Runs of calls drawn from fixed seeds, answered by ClockTree and by a slow model in the document's words. */
public final class ModelTest {
    private static final int RUNS = 3000;
    private static final int CALLS = 160;
    private static int wrong = 0;
    private static final Map<String, Integer> answers = new HashMap<>();

    /** Root's priority, class, lesser priority and identity, steps, sender's identity and port, port that heard it. */
    private static final class Tale implements Comparable<Tale> {
        final int[] ranks;

        Tale(int... ranks) {
            this.ranks = ranks;
        }

        Tale with(int place, int value) {
            int[] copy = ranks.clone();
            copy[place] = value;
            return new Tale(copy);
        }

        @Override
        public int compareTo(Tale other) {
            return Arrays.compare(ranks, other.ranks);
        }
    }

    private static final class Model {
        record End(int node, int port) { }

        final List<int[]> nodes = new ArrayList<>();
        final List<Long> offsets = new ArrayList<>();
        final List<Long> delays = new ArrayList<>();
        final List<int[]> links = new ArrayList<>();
        final List<Boolean> ups = new ArrayList<>();
        final Map<End, Tale> kept = new HashMap<>();
        final Map<End, Integer> ages = new HashMap<>();

        static void argument(boolean right) {
            if (!right) {
                throw new IllegalArgumentException();
            }
        }

        static boolean in(long value, long least, long most) {
            return value >= least && value <= most;
        }

        void checkNode(int node) {
            argument(in(node, 0, nodes.size() - 1));
        }

        void checkPort(int node, int port) {
            checkNode(node);
            argument(in(port, 0, 3));
        }

        int node(int identity, int priority, int kind, int lesser, long offset) {
            argument(in(identity, 0, 9999) && in(priority, 0, 255) && in(kind, 0, 255) && in(lesser, 0, 255));
            argument(nodes.stream().noneMatch(n -> n[3] == identity));
            if (nodes.size() == 10) {
                throw new IllegalStateException();
            }
            nodes.add(new int[] {priority, kind, lesser, identity});
            offsets.add(offset);
            delays.add(-1L);
            return nodes.size() - 1;
        }

        int linkOf(End end) {
            for (int i = 0; i < links.size(); i++) {
                int[] l = links.get(i);
                if (end.equals(new End(l[0], l[1])) || end.equals(new End(l[2], l[3]))) {
                    return i;
                }
            }
            return -1;
        }

        End far(End end) {
            int[] l = links.get(linkOf(end));
            return end.equals(new End(l[0], l[1])) ? new End(l[2], l[3]) : new End(l[0], l[1]);
        }

        int link(int a, int p, int b, int q, int there, int back) {
            checkPort(a, p);
            checkPort(b, q);
            argument(a != b && in(there, 0, 1000000000) && in(back, 0, 1000000000));
            if (links.size() == 16 || linkOf(new End(a, p)) >= 0 || linkOf(new End(b, q)) >= 0) {
                throw new IllegalStateException();
            }
            links.add(new int[] {a, p, b, q, there, back});
            ups.add(true);
            return links.size() - 1;
        }

        void up(int link, boolean is) {
            argument(in(link, 0, links.size() - 1));
            ups.set(link, is);
        }

        void priority(int node, int priority) {
            checkNode(node);
            argument(in(priority, 0, 255));
            nodes.get(node)[0] = priority;
        }

        Tale own(int node) {
            int[] n = nodes.get(node);
            return new Tale(n[0], n[1], n[2], n[3], 0, n[3], -1, -1);
        }

        Tale best(int node) {
            Tale best = own(node);
            for (int port = 0; port < 4; port++) {
                Tale one = kept.get(new End(node, port));
                if (one != null && one.compareTo(best) < 0) {
                    best = one;
                }
            }
            return best;
        }

        Tale told(End end) {
            Tale best = best(end.node);
            int identity = nodes.get(end.node)[3];
            Tale from = best.with(5, identity).with(6, end.port).with(7, end.port);
            return best.ranks[7] == -1 ? from : from.with(4, best.ranks[4] + 1);
        }

        int stateOf(End end) {
            if (linkOf(end) < 0) {
                return 0;
            }
            if (best(end.node).ranks[7] == end.port) {
                return 2;
            }
            Tale one = kept.get(end);
            return one != null && one.compareTo(told(end)) < 0 ? 3 : 1;
        }

        List<End> ends() {
            List<End> all = new ArrayList<>();
            for (int node = 0; node < nodes.size(); node++) {
                for (int port = 0; port < 4; port++) {
                    all.add(new End(node, port));
                }
            }
            return all;
        }

        int oneRound() {
            Map<End, Tale> sent = new HashMap<>();
            for (End end : ends()) {
                if (stateOf(end) == 1 && ups.get(linkOf(end))) {
                    sent.put(far(end), told(end));
                }
            }
            for (End end : ends()) {
                Tale tale = sent.get(end);
                if (tale != null && tale.ranks[4] != 15 && tale.ranks[3] != nodes.get(end.node)[3]) {
                    kept.put(end, tale.with(7, end.port));
                    ages.put(end, 0);
                } else if (kept.containsKey(end) && ages.merge(end, 1, Integer::sum) == 3) {
                    kept.remove(end);
                }
            }
            return sent.size();
        }

        int round(int n) {
            argument(in(n, 1, 50));
            int sum = 0;
            for (int i = 0; i < n; i++) {
                sum += oneRound();
            }
            return sum;
        }

        List<Object> picture() {
            List<Object> all = new ArrayList<>();
            for (End end : ends()) {
                Tale one = kept.get(end);
                all.add(one == null ? "none" : Arrays.toString(one.ranks));
                all.add(stateOf(end));
            }
            return all;
        }

        int settle() {
            int rounds = 0;
            List<Object> before;
            do {
                before = picture();
                oneRound();
                rounds++;
            } while (rounds < 60 && !before.equals(picture()));
            return rounds;
        }

        int state(int node, int port) {
            checkPort(node, port);
            return stateOf(new End(node, port));
        }

        int root(int node) {
            checkNode(node);
            return best(node).ranks[3];
        }

        int steps(int node) {
            checkNode(node);
            return best(node).ranks[4];
        }

        int kept(int node, int port) {
            checkPort(node, port);
            Tale one = kept.get(new End(node, port));
            return one == null ? -1 : 10000 * one.ranks[4] + one.ranks[3];
        }

        static BigInteger big(long value) {
            return BigInteger.valueOf(value);
        }

        static BigInteger fit(BigInteger value) {
            if (value.bitLength() > 63) {
                throw new ArithmeticException();
            }
            return value;
        }

        boolean canExchange(int node) {
            int port = best(node).ranks[7];
            return port >= 0 && ups.get(linkOf(new End(node, port)));
        }

        long exchange(int node, long t, int r, int s) {
            checkNode(node);
            argument(in(r, 0, 1000000) && in(s, 0, 1000000));
            if (!canExchange(node)) {
                throw new IllegalStateException();
            }
            End slave = new End(node, best(node).ranks[7]);
            int[] l = links.get(linkOf(slave));
            boolean first = slave.equals(new End(l[0], l[1]));
            BigInteger d = big(first ? l[5] : l[4]);
            BigInteger e = big(first ? l[4] : l[5]);
            BigInteger mine = big(offsets.get(node));
            BigInteger masters = big(offsets.get(far(slave).node));
            BigInteger came = fit(big(t).add(d).add(big(r)));
            BigInteger sent = fit(came.add(big(1000)));
            BigInteger end = fit(sent.add(e).add(big(s)));
            BigInteger t1 = fit(big(t).add(masters));
            BigInteger t2 = fit(came.add(mine));
            BigInteger t3 = fit(sent.add(mine));
            BigInteger t4 = fit(end.add(masters));
            BigInteger x = fit(fit(t2.subtract(t1)).subtract(big(r)));
            BigInteger y = fit(fit(t4.subtract(t3)).subtract(big(s)));
            BigInteger offsetFound = fit(x.subtract(y)).divide(big(2));
            BigInteger delayFound = fit(x.add(y)).divide(big(2));
            offsets.set(node, fit(mine.subtract(offsetFound)).longValueExact());
            delays.set(node, delayFound.longValueExact());
            return offsetFound.longValueExact();
        }

        long delay(int node) {
            checkNode(node);
            return delays.get(node);
        }

        long offset(int node) {
            checkNode(node);
            return offsets.get(node);
        }

        int discipline(long t) {
            List<Integer> order = new ArrayList<>();
            for (int node = 0; node < nodes.size(); node++) {
                if (canExchange(node)) {
                    order.add(node);
                }
            }
            order.sort((a, b) -> steps(a) != steps(b) ? Integer.compare(steps(a), steps(b)) : Integer.compare(a, b));
            int done = 0;
            for (int node : order) {
                try {
                    exchange(node, t, 0, 0);
                    done++;
                } catch (ArithmeticException e) {
                    continue;
                }
            }
            return done;
        }
    }

    private static final class Run {
        final int seed;
        final Random random;
        final ClockTree x = new ClockTree();
        final Model model = new Model();
        final StringBuilder log = new StringBuilder();
        final boolean extreme;
        final int spread;
        boolean failed = false;

        Run(int seed) {
            this.seed = seed;
            // Random's first draws are all but the same for seeds that are near one another.
            random = new Random(seed * 0x9E3779B97F4A7C15L);
            extreme = random.nextInt(4) == 0;
            spread = 1 + random.nextInt(4);
        }

        void due(String call, Callable<?> real, Callable<?> wanted) {
            Object got = answerOf(real);
            Object want = answerOf(wanted);
            log.append(call).append(" -> ").append(got).append('\n');
            String kind = call.substring(0, call.indexOf('('));
            answers.merge(got instanceof String ? kind + " " + got : kind, 1, Integer::sum);
            if (!Objects.equals(got, want) && !failed) {
                failed = true;
                wrong++;
                System.out.println("seed " + seed + ": " + call + " answered " + got + ", due is " + want);
                if (wrong <= 2) {
                    System.out.println(log);
                }
            }
        }

        static Object answerOf(Callable<?> call) {
            try {
                Object answer = call.call();
                return answer instanceof Number number ? (Object) number.longValue() : answer;
            } catch (Exception e) {
                return "throws." + e.getClass().getSimpleName();
            }
        }

        /** Mostly within 0 .. most, now and then just beyond. */
        int about(int most) {
            int lot = random.nextInt(40);
            return lot == 0 ? -1 : lot == 1 ? most + 1 : lot == 2 ? most : random.nextInt(most + 1);
        }

        int aNode() {
            return about(Math.max(0, model.nodes.size() - 1));
        }

        int aDelay() {
            return random.nextInt(3) == 0 ? about(1000000000) : random.nextInt(100);
        }

        long aLong() {
            if (!extreme) {
                return random.nextInt(20001) - 10000;
            }
            long near = random.nextInt(5000) - 2500;
            switch (random.nextInt(6)) {
                case 0: return Long.MAX_VALUE - Math.abs(near);
                case 1: return Long.MIN_VALUE + Math.abs(near);
                case 2: return (1L << 62) + near;
                case 3: return -(1L << 62) + near;
                case 4: return random.nextLong();
                default: return near;
            }
        }

        void makeNode() {
            int identity = random.nextInt(8) == 0 ? about(9999) : random.nextInt(20);
            int priority = random.nextInt(20) == 0 ? about(255) : random.nextInt(spread);
            int kind = random.nextInt(20) == 0 ? about(255) : random.nextInt(spread);
            int lesser = random.nextInt(20) == 0 ? about(255) : random.nextInt(spread);
            long offset = aLong();
            due("node(" + identity + ", " + priority + ", " + kind + ", " + lesser + ", " + offset + ")",
                    () -> x.node(identity, priority, kind, lesser, offset),
                    () -> model.node(identity, priority, kind, lesser, offset));
        }

        void makeLink() {
            int a = aNode();
            int p = about(3);
            int b = aNode();
            int q = about(3);
            int there = aDelay();
            int back = aDelay();
            due("link(" + a + ", " + p + ", " + b + ", " + q + ", " + there + ", " + back + ")",
                    () -> x.link(a, p, b, q, there, back), () -> model.link(a, p, b, q, there, back));
        }

        void setUp() {
            put(about(Math.max(0, model.links.size() - 1)), random.nextBoolean());
        }

        void put(int link, boolean is) {
            due("up(" + link + ", " + is + ")", () -> {
                x.up(link, is);
                return 0;
            }, () -> {
                model.up(link, is);
                return 0;
            });
        }

        void setPriority() {
            int node = aNode();
            rank(node, random.nextInt(4) == 0 ? about(255) : random.nextInt(spread + 1));
        }

        void rank(int node, int priority) {
            due("priority(" + node + ", " + priority + ")", () -> {
                x.priority(node, priority);
                return 0;
            }, () -> {
                model.priority(node, priority);
                return 0;
            });
        }

        void doExchange() {
            int node = aNode();
            long t = aLong();
            int r = random.nextBoolean() ? 0 : about(1000000);
            int s = random.nextBoolean() ? 0 : about(1000000);
            due("exchange(" + node + ", " + t + ", " + r + ", " + s + ")",
                    () -> x.exchange(node, t, r, s), () -> model.exchange(node, t, r, s));
        }

        void doRounds() {
            int n = random.nextInt(6) == 0 ? random.nextInt(53) - 1 : 1 + random.nextInt(3);
            due("round(" + n + ")", () -> x.round(n), () -> model.round(n));
        }

        void lookAtNode(int node) {
            due("root(" + node + ")", () -> x.root(node), () -> model.root(node));
            due("steps(" + node + ")", () -> x.steps(node), () -> model.steps(node));
            due("delay(" + node + ")", () -> x.delay(node), () -> model.delay(node));
            due("offset(" + node + ")", () -> x.offset(node), () -> model.offset(node));
        }

        void lookAtPort(int node, int port) {
            due("state(" + node + ", " + port + ")", () -> x.state(node, port), () -> model.state(node, port));
            due("kept(" + node + ", " + port + ")", () -> x.kept(node, port), () -> model.kept(node, port));
        }

        void lookAtAll() {
            for (int node = 0; node < model.nodes.size(); node++) {
                lookAtNode(node);
                for (int port = 0; port < 4; port++) {
                    lookAtPort(node, port);
                }
            }
        }

        void oneCall() {
            int lot = random.nextInt(100);
            if (lot < 2) {
                makeNode();
            } else if (lot < 8) {
                makeLink();
            } else if (lot < 20) {
                setUp();
            } else if (lot < 28) {
                setPriority();
            } else if (lot < 55) {
                doRounds();
            } else if (lot < 60) {
                due("settle()", () -> x.settle(), () -> model.settle());
            } else if (lot < 75) {
                doExchange();
            } else if (lot < 85) {
                long t = aLong();
                due("discipline(" + t + ")", () -> x.discipline(t), () -> model.discipline(t));
            } else if (lot < 92) {
                lookAtNode(aNode());
            } else {
                lookAtPort(aNode(), about(3));
            }
        }

        /** Two nodes that tell each other of a lost root over three links, which takes them long to end. */
        void playSlow() {
            int[] identities = {6, 10, 7, 3, 5, 8, 2, 4, 9, 1};
            int[] priorities = {7, 7, 4, 4, 13, 16, 18, 18, 18, 6};
            for (int i = 0; i < 10; i++) {
                int node = i;
                due("node(" + identities[i] + ", " + priorities[i] + ", 0, 0, 0)",
                        () -> x.node(identities[node], priorities[node], 0, 0, 0),
                        () -> model.node(identities[node], priorities[node], 0, 0, 0));
            }
            joined(0, 1, 1, 2);
            joined(0, 2, 1, 1);
            joined(0, 3, 1, 3);
            joined(0, 0, 2, 0);
            joined(1, 0, 3, 0);
            for (int i = 3; i < 9; i++) {
                joined(i, 1, i + 1, 0);
            }
            put(2, false);
            put(1, false);
            due("round(2)", () -> x.round(2), () -> model.round(2));
            put(2, true);
            rank(3, 2);
            due("round(1)", () -> x.round(1), () -> model.round(1));
            put(1, true);
            rank(3, 18);
            due("settle()", () -> x.settle(), () -> model.settle());
            lookAtAll();
        }

        void joined(int a, int p, int b, int q) {
            due("link(" + a + ", " + p + ", " + b + ", " + q + ", 0, 0)",
                    () -> x.link(a, p, b, q, 0, 0), () -> model.link(a, p, b, q, 0, 0));
        }

        void play() {
            int nodes = 1 + random.nextInt(12);
            for (int i = 0; i < nodes; i++) {
                makeNode();
            }
            int links = random.nextInt(40);
            for (int i = 0; i < links; i++) {
                makeLink();
            }
            for (int i = 0; i < CALLS && !failed; i++) {
                oneCall();
                if (random.nextInt(8) == 0) {
                    lookAtAll();
                }
            }
            lookAtAll();
        }
    }

    public static void main(String[] args) {
        new Run(0).playSlow();
        for (int seed = 0; seed < RUNS && wrong < 20; seed++) {
            new Run(seed).play();
        }
        System.out.println(RUNS + " runs, " + wrong + " wrong");
        if (args.length > 0) {
            System.out.println(new java.util.TreeMap<>(answers));
        }
        if (wrong != 0) {
            System.exit(1);
        }
    }
}
