import java.util.Objects;
import java.util.concurrent.Callable;

/** One group of checks for each promise of the document: ordinary inputs, edges, wrong inputs. */
public final class PromiseTests {
    private static final String ARGUMENT = "throws.IllegalArgumentException";
    private static final String STATE = "throws.IllegalStateException";
    private static final String ARITHMETIC = "throws.ArithmeticException";
    private static final int OFF = 0;
    private static final int MASTER = 1;
    private static final int SLAVE = 2;
    private static final int PASSIVE = 3;
    private static final long MAX = Long.MAX_VALUE;
    private static final long MIN = Long.MIN_VALUE;

    private static String group = "";
    private static int wrong = 0;
    private static int checked = 0;

    private static Object answerOf(Callable<?> call) {
        try {
            Object answer = call.call();
            return answer instanceof Number number ? (Object) number.longValue() : answer;
        } catch (Exception e) {
            return "throws." + e.getClass().getSimpleName();
        }
    }

    private static void due(String name, Object want, Callable<?> call) {
        Object got = answerOf(call);
        Object wanted = want instanceof Number number ? (Object) number.longValue() : want;
        checked++;
        if (!Objects.equals(got, wanted)) {
            wrong++;
            System.out.println(group + ": " + name + " answered " + got + ", due is " + wanted);
        }
    }

    private static void dueOfVoid(String name, Object want, Runnable call) {
        due(name, want, () -> {
            call.run();
            return "nothing";
        });
    }

    public static void main(String[] args) {
        newObject();
        node();
        link();
        up();
        priority();
        round();
        settle();
        state();
        stateByEachRank();
        root();
        steps();
        kept();
        refused();
        exchange();
        exchangeOverflow();
        delay();
        offset();
        discipline();
        disciplineOverflow();
        System.out.println(checked + " checks, " + wrong + " wrong");
        if (wrong != 0) {
            System.exit(1);
        }
    }

    /** A chain of nodes with identities 100, 101, .. and worse priorities: port 1 of each to port 0 of the next. */
    private static ClockTree chain(int length) {
        ClockTree x = new ClockTree();
        for (int i = 0; i < length; i++) {
            x.node(100 + i, 10 + i, 5, 5, 0);
        }
        for (int i = 0; i + 1 < length; i++) {
            x.link(i, 1, i + 1, 0, 100, 100);
        }
        return x;
    }

    private static ClockTree pair(long masterOffset, long slaveOffset, int there, int back) {
        ClockTree x = new ClockTree();
        x.node(1, 1, 1, 1, masterOffset);
        x.node(2, 2, 2, 2, slaveOffset);
        x.link(0, 0, 1, 0, there, back);
        x.round(1);
        return x;
    }

    private static void newObject() {
        group = "promise 1";
        ClockTree x = new ClockTree();
        due("root(0)", ARGUMENT, () -> x.root(0));
        due("offset(0)", ARGUMENT, () -> x.offset(0));
        due("state(0, 0)", ARGUMENT, () -> x.state(0, 0));
        dueOfVoid("up(0, true)", ARGUMENT, () -> x.up(0, true));
        due("round(50)", 0, () -> x.round(50));
        due("settle()", 1, () -> x.settle());
        due("discipline(0)", 0, () -> x.discipline(0));
        due("the first node", 0, () -> x.node(0, 0, 0, 0, 0));
        ClockTree y = new ClockTree();
        due("another object's root(0)", ARGUMENT, () -> y.root(0));
    }

    private static void node() {
        group = "promise 2";
        ClockTree x = new ClockTree();
        due("identity -1", ARGUMENT, () -> x.node(-1, 0, 0, 0, 0));
        due("identity 10000", ARGUMENT, () -> x.node(10000, 0, 0, 0, 0));
        due("priority -1", ARGUMENT, () -> x.node(0, -1, 0, 0, 0));
        due("priority 256", ARGUMENT, () -> x.node(0, 256, 0, 0, 0));
        due("kind -1", ARGUMENT, () -> x.node(0, 0, -1, 0, 0));
        due("kind 256", ARGUMENT, () -> x.node(0, 0, 256, 0, 0));
        due("lesser -1", ARGUMENT, () -> x.node(0, 0, 0, -1, 0));
        due("lesser 256", ARGUMENT, () -> x.node(0, 0, 0, 256, 0));
        due("least values", 0, () -> x.node(0, 0, 0, 0, MIN));
        due("greatest values", 1, () -> x.node(9999, 255, 255, 255, MAX));
        due("identity 0 again", ARGUMENT, () -> x.node(0, 1, 1, 1, 1));
        due("identity 9999 again", ARGUMENT, () -> x.node(9999, 1, 1, 1, 1));
        for (int i = 2; i < 10; i++) {
            int number = i;
            due("node " + i, number, () -> x.node(number, 7, 7, 7, 7));
        }
        due("an eleventh", STATE, () -> x.node(5000, 7, 7, 7, 7));
        due("an eleventh with an identity in use", ARGUMENT, () -> x.node(9, 7, 7, 7, 7));
        due("an eleventh out of range", ARGUMENT, () -> x.node(5000, 7, 7, 256, 7));
        due("root(10)", ARGUMENT, () -> x.root(10));
        due("root(9)", 9, () -> x.root(9));
        due("state(9, 3)", OFF, () -> x.state(9, 3));
    }

    private static void link() {
        group = "promise 3";
        ClockTree x = new ClockTree();
        x.node(5, 1, 1, 1, 0);
        x.node(6, 2, 1, 1, 0);
        due("a -1", ARGUMENT, () -> x.link(-1, 0, 1, 0, 0, 0));
        due("a 2", ARGUMENT, () -> x.link(2, 0, 1, 0, 0, 0));
        due("b -1", ARGUMENT, () -> x.link(0, 0, -1, 0, 0, 0));
        due("b 2", ARGUMENT, () -> x.link(0, 0, 2, 0, 0, 0));
        due("p -1", ARGUMENT, () -> x.link(0, -1, 1, 0, 0, 0));
        due("p 4", ARGUMENT, () -> x.link(0, 4, 1, 0, 0, 0));
        due("q -1", ARGUMENT, () -> x.link(0, 0, 1, -1, 0, 0));
        due("q 4", ARGUMENT, () -> x.link(0, 0, 1, 4, 0, 0));
        due("a is b", ARGUMENT, () -> x.link(0, 0, 0, 1, 0, 0));
        due("there -1", ARGUMENT, () -> x.link(0, 0, 1, 0, -1, 0));
        due("there 10^9 + 1", ARGUMENT, () -> x.link(0, 0, 1, 0, 1000000001, 0));
        due("back -1", ARGUMENT, () -> x.link(0, 0, 1, 0, 0, -1));
        due("back 10^9 + 1", ARGUMENT, () -> x.link(0, 0, 1, 0, 0, 1000000001));
        due("state(0, 0) before", OFF, () -> x.state(0, 0));
        due("the first", 0, () -> x.link(0, 0, 1, 0, 0, 1000000000));
        due("state(0, 0) after", MASTER, () -> x.state(0, 0));
        due("state(1, 0) after", MASTER, () -> x.state(1, 0));
        due("both ports have one", STATE, () -> x.link(0, 0, 1, 0, 0, 0));
        due("port p has one", STATE, () -> x.link(0, 0, 1, 1, 0, 0));
        due("port q has one", STATE, () -> x.link(0, 1, 1, 0, 0, 0));
        due("port q has one, the other way", STATE, () -> x.link(1, 1, 0, 0, 0, 0));
        due("a delay is out of range, and a port has one", ARGUMENT, () -> x.link(0, 0, 1, 0, -1, 0));
        due("state(0, 1) is as it was", OFF, () -> x.state(0, 1));
        due("state(1, 1) is as it was", OFF, () -> x.state(1, 1));
        due("a second one between the same nodes", 1, () -> x.link(1, 3, 0, 3, 1000000000, 0));
        linkLimit();
    }

    private static void linkLimit() {
        ClockTree x = new ClockTree();
        for (int i = 0; i < 10; i++) {
            x.node(i, i, 0, 0, 0);
        }
        for (int i = 0; i < 16; i++) {
            int number = i;
            int pair = i / 4 * 2;
            due("link " + i, number, () -> x.link(pair, number % 4, pair + 1, number % 4, 1, 1));
        }
        due("a seventeenth", STATE, () -> x.link(8, 0, 9, 0, 1, 1));
        due("a seventeenth from a node to itself", ARGUMENT, () -> x.link(8, 0, 8, 1, 1, 1));
        due("state(8, 0)", OFF, () -> x.state(8, 0));
        dueOfVoid("up(15, false)", "nothing", () -> x.up(15, false));
        dueOfVoid("up(16, false)", ARGUMENT, () -> x.up(16, false));
    }

    private static void up() {
        group = "promise 4";
        ClockTree x = chain(2);
        dueOfVoid("up(-1, true)", ARGUMENT, () -> x.up(-1, true));
        dueOfVoid("up(1, true)", ARGUMENT, () -> x.up(1, true));
        due("round(1) with the link up at first", 2, () -> x.round(1));
        dueOfVoid("up(0, false)", "nothing", () -> x.up(0, false));
        due("the state is the same", SLAVE, () -> x.state(1, 0));
        due("what is kept is the same", 100, () -> x.kept(1, 0));
        due("a round over a cut link", 0, () -> x.round(1));
        due("a slave still, by age 1", SLAVE, () -> x.state(1, 0));
        dueOfVoid("up(0, true)", "nothing", () -> x.up(0, true));
        due("a round over the link", 1, () -> x.round(1));
        dueOfVoid("up(0, false) again", "nothing", () -> x.up(0, false));
        due("two rounds over a cut link", 0, () -> x.round(2));
        due("kept still, at age 2", 100, () -> x.kept(1, 0));
        due("a third one", 0, () -> x.round(1));
        due("none is kept at age 3", -1, () -> x.kept(1, 0));
        due("a master over a cut link", MASTER, () -> x.state(1, 0));
        dueOfVoid("up(0, false) once more", "nothing", () -> x.up(0, false));
        due("a cut link sends nothing", 0, () -> x.round(1));
    }

    private static void priority() {
        group = "promise 5";
        ClockTree x = chain(3);
        x.settle();
        dueOfVoid("node -1", ARGUMENT, () -> x.priority(-1, 0));
        dueOfVoid("node 3", ARGUMENT, () -> x.priority(3, 0));
        dueOfVoid("priority -1", ARGUMENT, () -> x.priority(2, -1));
        dueOfVoid("priority 256", ARGUMENT, () -> x.priority(2, 256));
        due("root(2) as it was", 100, () -> x.root(2));
        due("state(2, 0) as it was", SLAVE, () -> x.state(2, 0));
        dueOfVoid("priority(2, 0)", "nothing", () -> x.priority(2, 0));
        due("root(2) at once", 102, () -> x.root(2));
        due("state(2, 0) at once", MASTER, () -> x.state(2, 0));
        due("root(1) not at once", 100, () -> x.root(1));
        x.settle();
        due("root(0)", 102, () -> x.root(0));
        due("state(0, 1)", SLAVE, () -> x.state(0, 1));
        dueOfVoid("priority(2, 255)", "nothing", () -> x.priority(2, 255));
        due("root(1) by what it heard", 102, () -> x.root(1));
        x.settle();
        due("root(2) after all", 100, () -> x.root(2));
        keptTellsOldPriority();
    }

    /** What a port keeps tells of the root's priority as it was when that was sent. */
    private static void keptTellsOldPriority() {
        ClockTree x = chain(2);
        x.round(4);
        x.up(0, false);
        x.priority(0, 200);
        due("root(0)", 100, () -> x.root(0));
        due("root(1) by the old priority", 100, () -> x.root(1));
        x.up(0, true);
        due("round(1)", 1, () -> x.round(1));
        due("root(1) by the new priority", 101, () -> x.root(1));
        due("kept(1, 0)", 100, () -> x.kept(1, 0));
        due("state(1, 0)", MASTER, () -> x.state(1, 0));
    }

    private static void round() {
        group = "promise 6";
        ClockTree x = chain(3);
        due("round(0)", ARGUMENT, () -> x.round(0));
        due("round(-1)", ARGUMENT, () -> x.round(-1));
        due("round(51)", ARGUMENT, () -> x.round(51));
        due("nothing was kept", -1, () -> x.kept(1, 0));
        due("round(1), all are masters", 4, () -> x.round(1));
        due("kept(1, 0)", 100, () -> x.kept(1, 0));
        due("kept(1, 1)", 102, () -> x.kept(1, 1));
        due("kept(2, 0) all at once", 101, () -> x.kept(2, 0));
        due("root(2)", 101, () -> x.root(2));
        due("round(1), two masters", 2, () -> x.round(1));
        due("kept(2, 0)", 10100, () -> x.kept(2, 0));
        due("kept(1, 1) at age 1", 102, () -> x.kept(1, 1));
        due("round(1)", 2, () -> x.round(1));
        due("kept(1, 1) at age 2", 102, () -> x.kept(1, 1));
        due("round(1)", 2, () -> x.round(1));
        due("kept(1, 1) at age 3", -1, () -> x.kept(1, 1));
        due("round(50)", 100, () -> x.round(50));
        due("kept(2, 0) by rounds", 10100, () -> x.kept(2, 0));
    }

    private static void settle() {
        group = "promise 7";
        ClockTree lone = new ClockTree();
        lone.node(1, 1, 1, 1, 1);
        due("a node alone", 1, () -> lone.settle());
        ClockTree two = chain(2);
        // Round 1: both hear; 2 and 3: what node 0 keeps grows old; 4: it is dropped; 5: none changes.
        due("round(1) of two", 2, () -> two.round(1));
        due("ages alone count for nothing", 1, () -> two.settle());
        due("kept(0, 1) at age 1", 101, () -> two.kept(0, 1));
        due("at age 2", 1, () -> two.settle());
        due("dropped, then the same", 2, () -> two.settle());
        due("kept(0, 1)", -1, () -> two.kept(0, 1));
        due("settled", 1, () -> two.settle());
        two.priority(0, 11);
        // The states are as before; what is kept at node 1 tells another priority.
        due("another priority is kept", 2, () -> two.settle());
        due("root(1) of 11, 11, 100 and 101", 100, () -> two.root(1));
        ClockTree three = chain(3);
        due("three from the start", 3, () -> three.settle());
        due("root(2)", 100, () -> three.root(2));
        settleOfGhosts();
    }

    /** In a ring without its root the tale of it goes round until the steps are 15. */
    private static void settleOfGhosts() {
        ClockTree x = ringWithRoot();
        x.settle();
        x.up(0, false);
        int total = 0;
        for (int i = 0; i < 60 && x.root(0) != 10 | x.root(1) != 10 | x.root(2) != 10; i++) {
            total += x.round(1) > 0 ? 1 : 0;
        }
        int rounds = total;
        due("the ring finds another root", true, () -> rounds > 12 && rounds < 40);
        due("steps of the ghost have an end: root(1)", 10, () -> x.root(1));
        x.settle();
        due("and it stays so", 1, () -> x.settle());
    }

    private static ClockTree ringWithRoot() {
        ClockTree x = new ClockTree();
        x.node(10, 50, 1, 1, 0);
        x.node(11, 51, 1, 1, 0);
        x.node(12, 52, 1, 1, 0);
        x.node(13, 1, 1, 1, 0);
        x.link(3, 0, 0, 0, 5, 5);
        x.link(0, 1, 1, 0, 5, 5);
        x.link(1, 1, 2, 0, 5, 5);
        x.link(2, 1, 0, 2, 5, 5);
        return x;
    }

    private static void state() {
        group = "promise 8";
        ClockTree x = new ClockTree();
        x.node(10, 1, 1, 1, 0);
        x.node(20, 2, 1, 1, 0);
        x.node(30, 3, 1, 1, 0);
        x.link(0, 0, 1, 0, 1, 1);
        x.link(0, 1, 2, 0, 1, 1);
        x.link(1, 1, 2, 1, 1, 1);
        due("node -1", ARGUMENT, () -> x.state(-1, 0));
        due("node 3", ARGUMENT, () -> x.state(3, 0));
        due("port -1", ARGUMENT, () -> x.state(0, -1));
        due("port 4", ARGUMENT, () -> x.state(0, 4));
        due("without a link", OFF, () -> x.state(0, 3));
        due("nothing is heard yet", MASTER, () -> x.state(2, 1));
        x.settle();
        due("state(0, 0)", MASTER, () -> x.state(0, 0));
        due("state(0, 1)", MASTER, () -> x.state(0, 1));
        due("state(1, 0)", SLAVE, () -> x.state(1, 0));
        due("state(1, 1)", MASTER, () -> x.state(1, 1));
        due("state(2, 0)", SLAVE, () -> x.state(2, 0));
        due("state(2, 1), the sender has the lesser identity", PASSIVE, () -> x.state(2, 1));
        due("state(1, 3)", OFF, () -> x.state(1, 3));
    }

    /** Each case differs in one rank alone, and the later ranks speak for the other one. */
    private static void stateByEachRank() {
        group = "better";
        ClockTree byPriority = rivals(new int[] {9, 1, 9, 9}, new int[] {1, 2, 1, 1});
        due("by priority", 9, () -> byPriority.root(2));
        ClockTree byKind = rivals(new int[] {9, 1, 1, 9}, new int[] {1, 1, 2, 1});
        due("by class", 9, () -> byKind.root(2));
        ClockTree byLesser = rivals(new int[] {9, 1, 1, 1}, new int[] {1, 1, 1, 2});
        due("by lesser priority", 9, () -> byLesser.root(2));
        ClockTree byIdentity = rivals(new int[] {9, 1, 1, 1}, new int[] {1, 1, 1, 1});
        due("by identity", 1, () -> byIdentity.root(2));
        byIdentityBeforeSteps();
        bySteps();
        bySenderIdentity();
        bySenderPort();
    }

    private static void byIdentityBeforeSteps() {
        ClockTree x = new ClockTree();
        x.node(10, 1, 1, 1, 0);
        x.node(40, 9, 1, 1, 0);
        x.node(50, 9, 1, 1, 0);
        x.node(20, 1, 1, 1, 0);
        x.link(0, 0, 1, 0, 1, 1);
        x.round(1);
        x.link(1, 1, 2, 0, 1, 1);
        x.link(3, 0, 2, 1, 1, 1);
        x.round(1);
        due("kept of the lesser root, with more steps", 10010, () -> x.kept(2, 0));
        due("kept of the greater root, with fewer steps", 20, () -> x.kept(2, 1));
        due("by identity of the root, not by steps or sender", SLAVE, () -> x.state(2, 0));
        due("root(2)", 10, () -> x.root(2));
    }

    /** Two nodes that know nothing of each other, heard by a third one for one round: identity, priority, class, lesser. */
    private static ClockTree rivals(int[] a, int[] b) {
        ClockTree x = new ClockTree();
        x.node(a[0], a[1], a[2], a[3], 0);
        x.node(b[0], b[1], b[2], b[3], 0);
        x.node(50, 255, 255, 255, 0);
        x.link(0, 0, 2, 3, 1, 1);
        x.link(1, 0, 2, 0, 1, 1);
        x.round(1);
        return x;
    }

    private static void bySteps() {
        ClockTree x = new ClockTree();
        x.node(90, 1, 1, 1, 0);
        x.node(10, 2, 1, 1, 0);
        x.node(50, 3, 1, 1, 0);
        x.link(0, 0, 1, 0, 1, 1);
        x.link(1, 1, 2, 0, 1, 1);
        x.link(0, 3, 2, 3, 1, 1);
        x.settle();
        due("by steps, the sender has the greater identity", SLAVE, () -> x.state(2, 3));
        due("the longer way", PASSIVE, () -> x.state(2, 0));
        due("kept of the longer way", 10090, () -> x.kept(2, 0));
    }

    private static void bySenderIdentity() {
        ClockTree x = new ClockTree();
        x.node(90, 1, 1, 1, 0);
        x.node(20, 2, 1, 1, 0);
        x.node(10, 3, 1, 1, 0);
        x.node(50, 4, 1, 1, 0);
        x.link(0, 0, 1, 0, 1, 1);
        x.link(0, 1, 2, 0, 1, 1);
        x.link(1, 1, 3, 0, 1, 1);
        x.link(2, 2, 3, 1, 1, 1);
        x.settle();
        due("by the sender's identity, with greater ports", SLAVE, () -> x.state(3, 1));
        due("the sender with the greater identity", MASTER, () -> x.state(1, 1));
        due("at its other end", PASSIVE, () -> x.state(3, 0));
    }

    private static void bySenderPort() {
        ClockTree x = new ClockTree();
        x.node(90, 1, 1, 1, 0);
        x.node(50, 4, 1, 1, 0);
        x.link(0, 3, 1, 0, 1, 1);
        x.link(0, 2, 1, 1, 1, 1);
        x.settle();
        due("by the sender's port, at a greater port", SLAVE, () -> x.state(1, 1));
        due("the greater port of the sender", PASSIVE, () -> x.state(1, 0));
    }

    private static void root() {
        group = "promise 9";
        ClockTree x = chain(3);
        due("root(-1)", ARGUMENT, () -> x.root(-1));
        due("root(3)", ARGUMENT, () -> x.root(3));
        due("root(2) at first", 102, () -> x.root(2));
        x.round(1);
        due("root(2) after a round", 101, () -> x.root(2));
        x.round(1);
        due("root(2) after two", 100, () -> x.root(2));
        due("root(0)", 100, () -> x.root(0));
    }

    private static void steps() {
        group = "promise 10";
        ClockTree x = chain(10);
        due("steps(-1)", ARGUMENT, () -> x.steps(-1));
        due("steps(10)", ARGUMENT, () -> x.steps(10));
        x.settle();
        due("steps(0)", 0, () -> x.steps(0));
        due("steps(1), told by the root itself", 0, () -> x.steps(1));
        due("steps(2)", 1, () -> x.steps(2));
        due("steps(9)", 8, () -> x.steps(9));
    }

    private static void kept() {
        group = "promise 11";
        ClockTree x = chain(10);
        due("node -1", ARGUMENT, () -> x.kept(-1, 0));
        due("node 10", ARGUMENT, () -> x.kept(10, 0));
        due("port -1", ARGUMENT, () -> x.kept(0, -1));
        due("port 4", ARGUMENT, () -> x.kept(0, 4));
        due("kept(9, 0) at first", -1, () -> x.kept(9, 0));
        due("kept(9, 3) without a link", -1, () -> x.kept(9, 3));
        x.round(1);
        due("kept(9, 0) after a round", 108, () -> x.kept(9, 0));
        due("kept(0, 1) after a round", 101, () -> x.kept(0, 1));
        x.settle();
        due("kept(9, 0)", 80100, () -> x.kept(9, 0));
        due("kept(1, 0)", 100, () -> x.kept(1, 0));
        due("kept(0, 1)", -1, () -> x.kept(0, 1));
    }

    private static void refused() {
        group = "refused datasets";
        ClockTree x = ringWithRoot();
        x.settle();
        x.up(0, false);
        int most = 0;
        for (int i = 0; i < 40; i++) {
            x.round(1);
            for (int node = 0; node < 3; node++) {
                for (int port = 0; port < 3; port++) {
                    most = Math.max(most, x.kept(node, port) / 10000);
                }
            }
        }
        int mostSteps = most;
        due("most steps that are kept", 14, () -> mostSteps);
        due("root(0)", 10, () -> x.root(0));
        ownTale();
    }

    /** A node does not believe what others still tell of itself. */
    private static void ownTale() {
        ClockTree x = new ClockTree();
        x.node(10, 1, 1, 1, 0);
        x.node(20, 50, 1, 1, 0);
        x.node(30, 60, 1, 1, 0);
        x.link(0, 0, 1, 0, 1, 1);
        x.link(1, 1, 2, 0, 1, 1);
        x.link(2, 1, 0, 1, 1, 1);
        x.round(10);
        x.priority(0, 255);
        due("node 2 keeps the old tale at two ports", 10010, () -> x.kept(2, 0));
        due("the masters are both ports of node 0 and one of node 1", 3, () -> x.round(1));
        due("node 2 goes by node 1's tale", 1, () -> x.steps(2));
        due("state(2, 1) tells that to node 0", MASTER, () -> x.state(2, 1));
        due("root(1)", 20, () -> x.root(1));
        due("state(1, 0) is a master", MASTER, () -> x.state(1, 0));
        due("both of node 0, both of node 1, one of node 2", 5, () -> x.round(1));
        due("the tale of node 0 is sent, not kept", -1, () -> x.kept(0, 1));
        due("another one is kept", 20, () -> x.kept(0, 0));
        due("root(0)", 20, () -> x.root(0));
        x.settle();
        due("root(2)", 20, () -> x.root(2));
    }

    private static void exchange() {
        group = "promise 12";
        ClockTree x = pair(1000, -500, 300, 500);
        due("node -1", ARGUMENT, () -> x.exchange(-1, 0, 0, 0));
        due("node 2", ARGUMENT, () -> x.exchange(2, 0, 0, 0));
        due("r -1", ARGUMENT, () -> x.exchange(1, 0, -1, 0));
        due("r 10^6 + 1", ARGUMENT, () -> x.exchange(1, 0, 1000001, 0));
        due("s -1", ARGUMENT, () -> x.exchange(1, 0, 0, -1));
        due("s 10^6 + 1", ARGUMENT, () -> x.exchange(1, 0, 0, 1000001));
        due("no slave port", STATE, () -> x.exchange(0, 0, 0, 0));
        due("no slave port, and a rest out of range", ARGUMENT, () -> x.exchange(0, 0, -1, 0));
        due("no slave port, and it would overflow", STATE, () -> x.exchange(0, MAX, 0, 0));
        due("a rest out of range, and it would overflow", ARGUMENT, () -> x.exchange(1, MAX, 0, -1));
        due("it overflows", ARITHMETIC, () -> x.exchange(1, MAX, 0, 0));
        due("offset(1) as it was", -500, () -> x.offset(1));
        // x = -1500 + 300, y = 1500 + 500.
        due("the offset found", -1600, () -> x.exchange(1, 1000000, 0, 0));
        due("offset(1)", 1100, () -> x.offset(1));
        due("offset(0)", 1000, () -> x.offset(0));
        due("rests are taken off", 0, () -> x.exchange(1, -7, 1000000, 0));
        due("rests are taken off on the way back", 0, () -> x.exchange(1, -7, 3, 1000000));
        x.up(0, false);
        due("the link is cut", STATE, () -> x.exchange(1, 0, 0, 0));
        x.up(0, true);
        due("the link is up again", 0, () -> x.exchange(1, 0, 0, 0));
        exchangeCutsTowardsZero();
        exchangeFromFirstEnd();
    }

    private static void exchangeCutsTowardsZero() {
        ClockTree above = pair(0, 0, 3, 0);
        due("3 / 2", 1, () -> above.exchange(1, 0, 0, 0));
        due("offset of 3 / 2", -1, () -> above.offset(1));
        ClockTree below = pair(0, 0, 0, 3);
        due("-3 / 2", -1, () -> below.exchange(1, 0, 0, 0));
        due("offset of -3 / 2", 1, () -> below.offset(1));
        due("-1 / 2", 0, () -> below.exchange(1, 0, 0, 0));
    }

    /** The slave is at the link's first end, so that the way back is the way to it. */
    private static void exchangeFromFirstEnd() {
        ClockTree x = new ClockTree();
        x.node(2, 2, 1, 1, 40);
        x.node(1, 1, 1, 1, 0);
        x.link(0, 2, 1, 3, 100, 700);
        x.round(1);
        due("d is the way back", 340, () -> x.exchange(0, 0, 0, 0));
        due("offset(0)", -300, () -> x.offset(0));
        due("delay(0)", 400, () -> x.delay(0));
    }

    private static void exchangeOverflow() {
        group = "promise 12, overflow";
        int d = 100;
        int e = 50;
        // Both clocks show t; the last true time is t + d + 1000 + e.
        due("the last true time fits", 0, () -> pair(0, 0, d, d).exchange(1, MAX - 1000 - 2 * d, 0, 0));
        due("the last true time does not", ARITHMETIC, () -> pair(0, 0, d, d).exchange(1, MAX - 999 - 2 * d, 0, 0));
        due("true times count, though clocks are behind", ARITHMETIC,
                () -> pair(-5000, -5000, d, d).exchange(1, MAX - 999 - 2 * d, 0, 0));
        due("rests count too, r", ARITHMETIC, () -> pair(-5000, -5000, d, d).exchange(1, MAX - 1000 - 2 * d, 1, 0));
        due("rests count too, s", ARITHMETIC, () -> pair(-5000, -5000, d, d).exchange(1, MAX - 1000 - 2 * d, 0, 1));
        due("t1 fits", 0, () -> pair(-1, -1, 0, 0).exchange(1, MIN + 1, 0, 0));
        due("t1 does not", ARITHMETIC, () -> pair(-1, -1, 0, 0).exchange(1, MIN, 0, 0));
        due("t4 fits", 0, () -> pair(9, 9, d, d).exchange(1, MAX - 1009 - 2 * d, 0, 0));
        due("t4 does not", ARITHMETIC, () -> pair(9, 9, d, d).exchange(1, MAX - 1008 - 2 * d, 0, 0));
        due("t2 does not fit below", ARITHMETIC, () -> pair(0, -200, 0, 0).exchange(1, MIN + 100, 0, 0));
        due("t3 fits", 2000, () -> pair(0, 2000, 0, 0).exchange(1, MAX - 3000, 0, 0));
        due("t3 does not", ARITHMETIC, () -> pair(0, 2000, 0, 0).exchange(1, MAX - 2999, 0, 0));
        long half = 1L << 62;
        due("t2 - t1 does not fit", ARITHMETIC, () -> pair(-half, half, 0, 0).exchange(1, 0, 0, 0));
        due("x - y does not fit", ARITHMETIC, () -> pair(0, half, 0, 0).exchange(1, 0, 0, 0));
        due("x - y fits", half - 1, () -> pair(0, half - 1, 0, 0).exchange(1, 0, 0, 0));
        due("x - y fits below", -half, () -> pair(0, -half, 0, 0).exchange(1, 0, 0, 0));
        due("x - y does not fit below", ARITHMETIC, () -> pair(0, -half - 1, 0, 0).exchange(1, 0, 0, 0));
        due("delays count in x - y", ARITHMETIC, () -> pair(0, half - 1, d, e).exchange(1, 0, 0, 0));
        newOffsetOverflow();
        nothingChangesByOverflow();
    }

    /** The slave would be set ahead of its master, whose clock fits but barely. */
    private static void newOffsetOverflow() {
        int way = 1000000000;
        ClockTree x = pair(MAX - 10, MAX - 10, 0, way);
        due("t = -2 * 10^9", ARITHMETIC, () -> x.exchange(1, -2L * way, 0, 0));
        due("offset(1)", MAX - 10, () -> x.offset(1));
        ClockTree y = pair(MAX - way / 2, MAX - way / 2, 0, way);
        due("the new offset fits", -way / 2, () -> y.exchange(1, -2L * way, 0, 0));
        due("the greatest offset", MAX, () -> y.offset(1));
    }

    private static void nothingChangesByOverflow() {
        ClockTree x = pair(10, 20, 0, 0);
        due("one that fits", 10, () -> x.exchange(1, 0, 0, 0));
        due("one that overflows", ARITHMETIC, () -> x.exchange(1, MAX, 0, 0));
        due("offset(1)", 10, () -> x.offset(1));
        due("delay(1)", 0, () -> x.delay(1));
        due("one that fits again", 0, () -> x.exchange(1, 0, 0, 0));
    }

    private static void delay() {
        group = "promise 13";
        ClockTree x = pair(0, 123, 7, 8);
        due("delay(-1)", ARGUMENT, () -> x.delay(-1));
        due("delay(2)", ARGUMENT, () -> x.delay(2));
        due("delay(1) before the first one", -1, () -> x.delay(1));
        answerOf(() -> x.exchange(1, MAX, 0, 0));
        due("delay(1) after an overflow", -1, () -> x.delay(1));
        x.exchange(1, 55, 1000, 2000);
        due("delay(1), 15 / 2", 7, () -> x.delay(1));
        due("delay(0)", -1, () -> x.delay(0));
        x.link(0, 3, 1, 3, 1000000000, 1000000000);
        x.round(1);
        x.up(0, false);
        x.round(3);
        due("delay(1) as it was", 7, () -> x.delay(1));
        x.discipline(0);
        due("delay(1) over the other link", 1000000000, () -> x.delay(1));
    }

    private static void offset() {
        group = "promise 14";
        ClockTree x = pair(MIN, MAX, 0, 0);
        due("offset(-1)", ARGUMENT, () -> x.offset(-1));
        due("offset(2)", ARGUMENT, () -> x.offset(2));
        due("offset(0)", MIN, () -> x.offset(0));
        due("offset(1)", MAX, () -> x.offset(1));
        ClockTree y = pair(70, 20, 10, 10);
        y.exchange(1, 0, 0, 0);
        due("offset(1) after an exchange", 70, () -> y.offset(1));
        y.round(5);
        due("offset(1) after rounds", 70, () -> y.offset(1));
    }

    private static void discipline() {
        group = "promise 15";
        // Node 2 is nearest to the root, node 3, then node 1, then node 0.
        ClockTree x = new ClockTree();
        x.node(40, 4, 1, 1, 1);
        x.node(30, 3, 1, 1, 10);
        x.node(20, 2, 1, 1, 100);
        x.node(10, 1, 1, 1, 1000);
        x.link(3, 0, 2, 0, 20, 20);
        x.link(2, 1, 1, 0, 30, 30);
        x.link(1, 1, 0, 0, 40, 40);
        due("no slaves yet", 0, () -> x.discipline(0));
        x.settle();
        due("three slaves", 3, () -> x.discipline(12345));
        for (int i = 0; i < 4; i++) {
            int node = i;
            due("offset(" + i + ") is the root's", 1000, () -> x.offset(node));
        }
        due("delay(0)", 40, () -> x.delay(0));
        due("delay(2)", 20, () -> x.delay(2));
        due("delay(3)", -1, () -> x.delay(3));
        x.up(1, false);
        due("one link is cut", 2, () -> x.discipline(0));
        disciplineOfSameSteps();
        disciplineByOldTales();
    }

    /** Nodes of the same steps go by the lesser number; each goes by its master alone. */
    private static void disciplineOfSameSteps() {
        ClockTree x = new ClockTree();
        x.node(3, 9, 1, 1, 0);
        x.node(1, 1, 1, 1, 600);
        x.node(2, 9, 1, 1, 50);
        x.link(1, 0, 0, 0, 10, 30);
        x.link(1, 1, 2, 0, 30, 10);
        x.settle();
        due("two of them", 2, () -> x.discipline(MIN / 2));
        due("offset(0)", 610, () -> x.offset(0));
        due("offset(2)", 590, () -> x.offset(2));
    }

    /**
     * Before a tale has gone all the way, a node and the one that it goes by may have the same
     * steps: the lesser one is set first, by what the other one's clock was before.
     */
    private static void disciplineByOldTales() {
        ClockTree x = new ClockTree();
        x.node(30, 30, 1, 1, 1000);
        x.node(20, 20, 1, 1, 100);
        x.node(10, 10, 1, 1, 0);
        x.link(1, 1, 0, 0, 0, 0);
        x.link(2, 0, 1, 0, 0, 0);
        x.round(1);
        due("steps(0), told by node 1 of itself", 0, () -> x.steps(0));
        due("steps(1), told by node 2 of itself", 0, () -> x.steps(1));
        due("both are set", 2, () -> x.discipline(0));
        due("node 0 by node 1's clock as it was", 100, () -> x.offset(0));
        due("node 1 by node 2's", 0, () -> x.offset(1));
        due("both are set again", 2, () -> x.discipline(0));
        due("node 0 by node 1's clock as it is", 0, () -> x.offset(0));
    }

    private static void disciplineOverflow() {
        group = "promise 15, overflow";
        ClockTree x = new ClockTree();
        x.node(1, 1, 1, 1, 0);
        x.node(2, 2, 1, 1, MAX);
        x.node(3, 3, 1, 1, 5);
        x.link(0, 0, 1, 0, 0, 0);
        x.link(0, 1, 2, 0, 0, 0);
        x.settle();
        due("one of two overflows", 1, () -> x.discipline(0));
        due("offset(1) as it was", MAX, () -> x.offset(1));
        due("delay(1)", -1, () -> x.delay(1));
        due("offset(2)", 0, () -> x.offset(2));
        due("delay(2)", 0, () -> x.delay(2));
        due("both overflow", 0, () -> x.discipline(MAX));
        due("without rests the last true time fits", 1, () -> pair(0, 0, 40, 60).discipline(MAX - 1100));
        due("a nanosecond later it does not", 0, () -> pair(0, 0, 40, 60).discipline(MAX - 1099));
    }
}
