import java.util.ArrayList;
import java.util.List;
import java.util.concurrent.Callable;
import java.util.function.Consumer;
import java.util.function.Function;
import java.util.function.Supplier;

/**
 * A call that throws changes nothing: of two objects that were made alike one gets a call that is
 * refused, and from then on both answer the same calls alike, ages and cut links and all.
 */
public final class RefusedCallTests {
    private static final String ARGUMENT = "throws.IllegalArgumentException";
    private static final String STATE = "throws.IllegalStateException";
    private static final String ARITHMETIC = "throws.ArithmeticException";
    private static final long MAX = Long.MAX_VALUE;
    private static final int LONGEST = 1000000000;
    private static final int REST = 1000000;

    private static int wrong = 0;
    private static int checked = 0;

    private record Refusal(String name, String due, Consumer<ClockTree> call) { }

    private record Network(String name, Supplier<ClockTree> make, int nodes, int links) { }

    public static void main(String[] args) {
        for (Network network : networks()) {
            for (Refusal refusal : refusalsOf(network)) {
                look(network, refusal);
            }
        }
        System.out.println(checked + " refused calls, " + wrong + " wrong");
        if (wrong != 0) {
            System.exit(1);
        }
    }

    private static void look(Network network, Refusal refusal) {
        checked++;
        List<Function<ClockTree, String>> afterwards = new ArrayList<>();
        afterwards.add(RefusedCallTests::seenAtOnce);
        afterwards.add(RefusedCallTests::seenByRounds);
        afterwards.add(RefusedCallTests::seenByExchanges);
        afterwards.add(RefusedCallTests::seenByMaking);
        for (Function<ClockTree, String> after : afterwards) {
            ClockTree untouched = network.make.get();
            ClockTree touched = network.make.get();
            String got = answerOf(() -> {
                refusal.call.accept(touched);
                return "nothing";
            });
            String before = after.apply(untouched);
            String behind = after.apply(touched);
            if (!got.equals(refusal.due)) {
                tell(network, refusal, "answered " + got + ", due is " + refusal.due);
                return;
            }
            if (!before.equals(behind)) {
                tell(network, refusal, "changed something:\n  " + before + "\n  " + behind);
                return;
            }
        }
    }

    private static void tell(Network network, Refusal refusal, String what) {
        wrong++;
        System.out.println(network.name + ": " + refusal.name + " " + what);
    }

    private static String answerOf(Callable<?> call) {
        try {
            return String.valueOf(call.call());
        } catch (Exception e) {
            return "throws." + e.getClass().getSimpleName();
        }
    }

    // What is seen afterwards; each way stays below the 512 calls that an object is used for.

    private static String seenAtOnce(ClockTree x) {
        StringBuilder text = new StringBuilder();
        for (int i = 0; i < 10; i++) {
            int node = i;
            text.append(answerOf(() -> x.root(node))).append(' ').append(answerOf(() -> x.steps(node))).append(' ');
            text.append(answerOf(() -> x.delay(node))).append(' ').append(answerOf(() -> x.offset(node))).append(' ');
            for (int j = 0; j < 4; j++) {
                int port = j;
                text.append(answerOf(() -> x.state(node, port))).append(' ');
                text.append(answerOf(() -> x.kept(node, port))).append(' ');
            }
        }
        return text.toString();
    }

    private static String seenByRounds(ClockTree x) {
        StringBuilder text = new StringBuilder();
        for (int i = 0; i < 3; i++) {
            text.append(x.round(1)).append(": ").append(seenAtOnce(x));
        }
        return text.append(x.settle()).append(' ').append(x.round(50)).toString();
    }

    private static String seenByExchanges(ClockTree x) {
        StringBuilder text = new StringBuilder();
        for (int i = 0; i < 10; i++) {
            int node = i;
            text.append(answerOf(() -> x.exchange(node, 12345, 6, 7))).append(' ');
        }
        text.append(seenAtOnce(x)).append(x.discipline(-54321)).append(' ');
        return text.append(seenAtOnce(x)).toString();
    }

    private static String seenByMaking(ClockTree x) {
        StringBuilder text = new StringBuilder();
        text.append(answerOf(() -> x.node(600, 0, 1, 1, 9))).append(' ');
        text.append(answerOf(() -> x.node(601, 255, 1, 1, 9))).append(' ');
        for (int i = 0; i < 40; i++) {
            int port = i % 4;
            int node = i / 4;
            text.append(answerOf(() -> x.link(node, port, (node + 1) % 10, 3 - port, 10 * port, 7))).append(' ');
        }
        text.append(x.settle()).append(' ').append(x.discipline(99)).append(' ');
        return text.append(seenAtOnce(x)).toString();
    }

    // The networks.

    private static List<Network> networks() {
        List<Network> all = new ArrayList<>();
        all.add(new Network("no nodes", ClockTree::new, 0, 0));
        all.add(new Network("one node", RefusedCallTests::alone, 1, 0));
        all.add(new Network("a pair at work", RefusedCallTests::pair, 2, 1));
        all.add(new Network("a pair that is cut, at age 2", RefusedCallTests::cutPair, 2, 1));
        all.add(new Network("a pair at the edge of what fits", RefusedCallTests::farPair, 2, 1));
        all.add(new Network("a ring in the midst of its rounds", RefusedCallTests::ring, 5, 5));
        all.add(new Network("ten nodes and sixteen links", RefusedCallTests::full, 10, 16));
        return all;
    }

    private static ClockTree alone() {
        ClockTree x = new ClockTree();
        x.node(7, 70, 71, 72, 73);
        return x;
    }

    private static ClockTree pair() {
        ClockTree x = new ClockTree();
        x.node(7, 70, 71, 72, 1000);
        x.node(8, 80, 81, 82, -500);
        x.link(0, 0, 1, 0, 300, 500);
        x.round(2);
        x.exchange(1, 5, 1, 2);
        x.round(1);
        return x;
    }

    private static ClockTree cutPair() {
        ClockTree x = pair();
        x.up(0, false);
        x.round(2);
        return x;
    }

    private static ClockTree farPair() {
        ClockTree x = new ClockTree();
        x.node(7, 70, 71, 72, 0);
        x.node(8, 80, 81, 82, 1L << 62);
        x.link(0, 0, 1, 0, 0, 0);
        x.round(1);
        return x;
    }

    private static ClockTree ring() {
        ClockTree x = new ClockTree();
        for (int i = 0; i < 5; i++) {
            x.node(20 - i, 50 + i, 5, 5, 100 * i);
        }
        for (int i = 0; i < 5; i++) {
            x.link(i, 0, (i + 1) % 5, 1, 10 + i, 20 + i);
        }
        x.round(4);
        x.discipline(1000);
        x.priority(0, 200);
        x.round(1);
        x.up(3, false);
        x.round(1);
        return x;
    }

    private static ClockTree full() {
        ClockTree x = new ClockTree();
        for (int i = 0; i < 10; i++) {
            x.node(i == 0 ? 9999 : 10 * i, 100 - i, 3, 3, i % 2 == 0 ? i : -i);
        }
        for (int i = 0; i < 10; i++) {
            x.link(i, 0, (i + 1) % 10, 1, 100 + i, 100 - i);
        }
        for (int i = 0; i < 6; i++) {
            x.link(i, 2, 9 - i / 2, 2 + i % 2, i, 2 * i);
        }
        x.round(2);
        x.up(4, false);
        x.round(1);
        return x;
    }

    // The calls that are refused.

    private static List<Refusal> refusalsOf(Network network) {
        List<Refusal> all = new ArrayList<>();
        addNodes(all, network);
        addLinks(all, network);
        addUpsAndPriorities(all, network);
        addRoundsAndLooks(all, network);
        addExchanges(all, network);
        return all;
    }

    private static void addNodes(List<Refusal> all, Network network) {
        for (int out : new int[] {-1, 10000}) {
            all.add(new Refusal("node of identity " + out, ARGUMENT, x -> x.node(out, 1, 2, 3, 4)));
        }
        for (int out : new int[] {-1, 256}) {
            all.add(new Refusal("node of priority " + out, ARGUMENT, x -> x.node(600, out, 2, 3, 4)));
            all.add(new Refusal("node of class " + out, ARGUMENT, x -> x.node(600, 1, out, 3, 4)));
            all.add(new Refusal("node of lesser priority " + out, ARGUMENT, x -> x.node(600, 1, 2, out, 4)));
        }
        for (int i = 0; i < network.nodes; i++) {
            int identity = identityOf(network, i);
            all.add(new Refusal("node of the identity " + identity, ARGUMENT, x -> x.node(identity, 0, 0, 0, 0)));
        }
        if (network.nodes == 10) {
            all.add(new Refusal("an eleventh node", STATE, x -> x.node(600, 0, 0, 0, 0)));
            all.add(new Refusal("an eleventh node out of range", ARGUMENT, x -> x.node(600, 0, 0, 256, 0)));
        }
    }

    /** A node that goes by nothing has its own identity as root, which is how a new network tells it. */
    private static int identityOf(Network network, int node) {
        ClockTree x = network.make.get();
        for (int i = 0; i < network.links; i++) {
            x.up(i, false);
        }
        x.round(3);
        return x.root(node);
    }

    private static void addLinks(List<Refusal> all, Network network) {
        for (int out : new int[] {-1, network.nodes, 10}) {
            all.add(new Refusal("link from node " + out, ARGUMENT, x -> x.link(out, 3, 0, 3, 1, 1)));
            all.add(new Refusal("link to node " + out, ARGUMENT, x -> x.link(0, 3, out, 3, 1, 1)));
        }
        for (int i = 0; i < network.nodes; i++) {
            int node = i;
            all.add(new Refusal("link of node " + i + " with itself", ARGUMENT, x -> x.link(node, 2, node, 3, 1, 1)));
        }
        if (network.nodes >= 2) {
            addLinksOfTwo(all);
        }
        if (network.links > 0) {
            addLinksOfPortsWithOne(all);
        }
        if (network.links == 16) {
            all.add(new Refusal("a seventeenth link", STATE, x -> x.link(6, 2, 1, 3, 1, 1)));
            all.add(new Refusal("a seventeenth link of a delay of -1", ARGUMENT, x -> x.link(6, 2, 1, 3, -1, 1)));
        }
    }

    private static void addLinksOfTwo(List<Refusal> all) {
        for (int out : new int[] {-1, 4}) {
            all.add(new Refusal("link from port " + out, ARGUMENT, x -> x.link(0, out, 1, 3, 1, 1)));
            all.add(new Refusal("link to port " + out, ARGUMENT, x -> x.link(0, 3, 1, out, 1, 1)));
        }
        for (int out : new int[] {-1, LONGEST + 1}) {
            all.add(new Refusal("link with " + out + " there", ARGUMENT, x -> x.link(0, 3, 1, 3, out, 1)));
            all.add(new Refusal("link with " + out + " back", ARGUMENT, x -> x.link(0, 3, 1, 3, 1, out)));
        }
    }

    /** Port 0 of the first node has a link in every network of two nodes, port 3 of the second one has none. */
    private static void addLinksOfPortsWithOne(List<Refusal> all) {
        all.add(new Refusal("link from a port that has one", STATE, x -> x.link(0, 0, 1, 3, 1, 1)));
        all.add(new Refusal("link to a port that has one", STATE, x -> x.link(1, 3, 0, 0, 1, 1)));
        all.add(new Refusal("link of two ports that have one", STATE, x -> x.link(0, 0, 1, 0, 1, 1)));
        all.add(new Refusal("link of such ports, too long", ARGUMENT, x -> x.link(0, 0, 1, 0, 1, LONGEST + 1)));
    }

    private static void addUpsAndPriorities(List<Refusal> all, Network network) {
        for (int out : new int[] {-1, network.links, 16}) {
            all.add(new Refusal("up of link " + out, ARGUMENT, x -> x.up(out, true)));
            all.add(new Refusal("cut of link " + out, ARGUMENT, x -> x.up(out, false)));
        }
        for (int out : new int[] {-1, network.nodes, 10}) {
            all.add(new Refusal("priority of node " + out, ARGUMENT, x -> x.priority(out, 0)));
        }
        for (int i = 0; i < network.nodes; i++) {
            int node = i;
            all.add(new Refusal("priority -1 of node " + i, ARGUMENT, x -> x.priority(node, -1)));
            all.add(new Refusal("priority 256 of node " + i, ARGUMENT, x -> x.priority(node, 256)));
        }
    }

    private static void addRoundsAndLooks(List<Refusal> all, Network network) {
        for (int out : new int[] {0, -1, 51}) {
            all.add(new Refusal("round of " + out, ARGUMENT, x -> x.round(out)));
        }
        for (int out : new int[] {-1, network.nodes, 10}) {
            all.add(new Refusal("state of node " + out, ARGUMENT, x -> x.state(out, 0)));
            all.add(new Refusal("kept of node " + out, ARGUMENT, x -> x.kept(out, 0)));
            all.add(new Refusal("root of node " + out, ARGUMENT, x -> x.root(out)));
            all.add(new Refusal("steps of node " + out, ARGUMENT, x -> x.steps(out)));
            all.add(new Refusal("delay of node " + out, ARGUMENT, x -> x.delay(out)));
            all.add(new Refusal("offset of node " + out, ARGUMENT, x -> x.offset(out)));
        }
        for (int out : new int[] {-1, 4}) {
            all.add(new Refusal("state of port " + out, ARGUMENT, x -> x.state(0, out)));
            all.add(new Refusal("kept of port " + out, ARGUMENT, x -> x.kept(0, out)));
        }
    }

    private static void addExchanges(List<Refusal> all, Network network) {
        for (int out : new int[] {-1, network.nodes, 10}) {
            all.add(new Refusal("exchange of node " + out, ARGUMENT, x -> x.exchange(out, 0, 0, 0)));
        }
        for (int out : new int[] {-1, REST + 1}) {
            for (int i = 0; i < network.nodes; i++) {
                int node = i;
                all.add(new Refusal("exchange of node " + i + " with r " + out, ARGUMENT, x -> x.exchange(node, 0, out, 0)));
                all.add(new Refusal("exchange of node " + i + " with s " + out, ARGUMENT, x -> x.exchange(node, MAX, 0, out)));
            }
        }
        if (network.name.equals("one node")) {
            all.add(new Refusal("exchange of a node alone", STATE, x -> x.exchange(0, 0, 0, 0)));
        }
        if (network.name.equals("a pair at work")) {
            all.add(new Refusal("exchange of the root", STATE, x -> x.exchange(0, MAX, 0, 0)));
            all.add(new Refusal("exchange too late", ARITHMETIC, x -> x.exchange(1, MAX, 0, 0)));
            // The offsets are 1000 and 1100: t4 is t + 300 + 1000 + 500 + 1000.
            all.add(new Refusal("exchange too late by one", ARITHMETIC, x -> x.exchange(1, MAX - 2799, 0, 0)));
            all.add(new Refusal("exchange too late by r", ARITHMETIC, x -> x.exchange(1, MAX - 2800, 1, 0)));
            all.add(new Refusal("exchange too late by s", ARITHMETIC, x -> x.exchange(1, MAX - 2800, 0, 1)));
        }
        if (network.name.equals("a pair that is cut, at age 2")) {
            all.add(new Refusal("exchange over a cut link", STATE, x -> x.exchange(1, 0, 0, 0)));
            all.add(new Refusal("exchange over a cut link, too late", STATE, x -> x.exchange(1, MAX, 0, 0)));
        }
        if (network.name.equals("a pair at the edge of what fits")) {
            all.add(new Refusal("exchange of clocks too far apart", ARITHMETIC, x -> x.exchange(1, 0, 0, 0)));
            all.add(new Refusal("exchange with t2 too great", ARITHMETIC, x -> x.exchange(1, 1L << 62, 0, 0)));
        }
    }
}
