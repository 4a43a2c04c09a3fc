import java.util.Objects;
import java.util.concurrent.Callable;

/**
 * One method for each sentence of the document that names a boundary, just inside and just outside
 * of it. That a refused call changes nothing is what RefusedCallTests looks at.
 */
public final class BoundaryTests {
    private static final String ARGUMENT = "throws.IllegalArgumentException";
    private static final String STATE = "throws.IllegalStateException";
    private static final String ARITHMETIC = "throws.ArithmeticException";
    private static final int OFF = 0;
    private static final int MASTER = 1;
    private static final int SLAVE = 2;
    private static final int PASSIVE = 3;
    private static final int LEAST_INT = Integer.MIN_VALUE;
    private static final int MOST_INT = Integer.MAX_VALUE;
    private static final long MIN = Long.MIN_VALUE;
    private static final long MAX = Long.MAX_VALUE;
    private static final long HALF = 1L << 62;
    private static final int LONGEST = 1000000000;
    private static final int REST = 1000000;

    private static String sentence = "";
    private static int wrong = 0;
    private static int checked = 0;

    private static Object answerOf(Callable<?> call) {
        try {
            Object answer = call.call();
            return answer instanceof Number number ? (Object) number.longValue() : answer;
        } catch (Exception e) {
            return "throws." + e.getClass().getSimpleName();
        }
    }

    private static void due(String name, Object want, Callable<?> call) {
        Object got = answerOf(call);
        Object wanted = want instanceof Number number ? (Object) number.longValue() : want;
        checked++;
        if (!Objects.equals(got, wanted)) {
            wrong++;
            System.out.println("[" + sentence + "] " + name + " answered " + got + ", due is " + wanted);
        }
    }

    private static void dueOfVoid(String name, Object want, Runnable call) {
        due(name, want, () -> {
            call.run();
            return "nothing";
        });
    }

    public static void main(String[] args) {
        terms();
        better();
        states();
        rounds();
        exchanges();
        overflows();
        promises();
        System.out.println(checked + " checks, " + wrong + " wrong");
        if (wrong != 0) {
            System.exit(1);
        }
    }

    private static void terms() {
        nodesAreNumberedAndTenAtMost();
        identityIsZeroTo9999();
        identityIsAnotherOneForEach();
        prioritiesAreZeroTo255();
        offsetIsAnyLong();
        portsAreZeroToThree();
        linksAreNumberedAndSixteenAtMost();
        linkJoinsTwoNodes();
        delayIsZeroToTenToTheNinth();
        linkIsUpAtFirst();
        portHasOneLinkAtMost();
    }

    private static void better() {
        lesserPriorityIsBetter();
        lesserClassIsBetter();
        lesserLesserPriorityIsBetter();
        lesserRootIsBetter();
        fewerStepsAreBetter();
        lesserSenderIsBetter();
        lesserSenderPortIsBetter();
        ownOneIsAmongTheBest();
    }

    private static void states() {
        offWithoutALink();
        slaveKeepsTheBestOne();
        toldIsOneStepMoreButTheOwnOne();
        passiveByOneStep();
        passiveBySender();
        passiveByRoot();
        statesAreFoundWhenALinkIsMade();
        statesAreFoundWhenAPriorityChanges();
    }

    private static void rounds() {
        mastersAloneSend();
        allSendAtOnce();
        fourteenStepsAreKeptFifteenAreNot();
        fifteenStepsLetTheOldOneAge();
        ownRootIsNotKept();
        ownRootLetsTheOldOneAge();
        ageOfThreeIsDropped();
        ageBeginsAnewWhenHeardAgain();
        otherPortsAgeWhileOneHears();
    }

    private static void exchanges() {
        restsAreTakenOff();
        thousandLiesBetween();
        delaysOfBothWays();
        slavePortOfEachNumber();
        cutTowardsZero();
    }

    private static void overflows() {
        trueTimes();
        firstTime();
        secondTime();
        thirdTime();
        fourthTime();
        differences();
        differenceOfXAndY();
        newOffset();
    }

    private static void promises() {
        firstOfTheHeadingIsThrown();
        lastCallIsAnswered();
        newObjectHasNoNodes();
        upOfLinks();
        upChangesNothingAtOnce();
        priorityOfNodes();
        roundsAreOneToFifty();
        settleIsOneAtLeast();
        settleLooksAtWhatIsKept();
        settleCountsTheQuietRound();
        settleIsSixtyAtMost();
        lookingAtNodes();
        lookingAtPorts();
        keptOfNoneAndOfZero();
        exchangeNeedsASlaveWithALinkThatIsUp();
        delayBeforeTheFirstExchange();
        disciplineBySteps();
        disciplineOfFourteenSteps();
        disciplineAtTheEdgeOfTime();
    }

    // Networks that several methods use.

    /** Two nodes, of which the first one is the better. */
    private static ClockTree pair(long masterOffset, long slaveOffset, int there, int back) {
        ClockTree x = new ClockTree();
        x.node(1, 1, 1, 1, masterOffset);
        x.node(2, 2, 2, 2, slaveOffset);
        x.link(0, 0, 1, 0, there, back);
        x.round(1);
        return x;
    }

    /** The identities 100, 101, .., the worse the later; port 1 of each to port 0 of the next. */
    private static ClockTree chain(int length) {
        ClockTree x = new ClockTree();
        for (int i = 0; i < length; i++) {
            x.node(100 + i, 10 + i, 5, 5, 0);
        }
        for (int i = 0; i + 1 < length; i++) {
            x.link(i, 1, i + 1, 0, 100, 100);
        }
        return x;
    }

    /**
     * A root, node 0, at port 2 of node 1, and a ring of the nodes 1 .. size (port 1 of each to
     * port 0 of the next) whose links are cut: link 0 is the root's, link i leads from node i.
     */
    private static ClockTree courierRing(int size, int rootIdentity) {
        ClockTree x = new ClockTree();
        x.node(rootIdentity, 1, 1, 1, 0);
        for (int i = 1; i <= size; i++) {
            x.node(20 + i, 50 + i, 1, 1, 0);
        }
        x.link(0, 0, 1, 2, 5, 5);
        for (int i = 1; i <= size; i++) {
            x.link(i, 1, i % size + 1, 0, 5, 5);
            x.up(i, false);
        }
        x.round(1);
        x.up(0, false);
        return x;
    }

    private static int courierAt(int hop, int size) {
        return (hop - 1) % size + 1;
    }

    /** The hop-th round after the root was cut: only the link of the node that has the youngest tale is up. */
    private static int carry(ClockTree x, int hop, int size) {
        int from = courierAt(hop, size);
        x.up(from, true);
        int sent = x.round(1);
        x.up(from, false);
        return sent;
    }

    private static ClockTree carried(int hops, int size, int rootIdentity) {
        ClockTree x = courierRing(size, rootIdentity);
        for (int hop = 1; hop <= hops; hop++) {
            carry(x, hop, size);
        }
        return x;
    }

    // Terms: nodes and links.

    private static void nodesAreNumberedAndTenAtMost() {
        sentence = "nodes are numbered 0, 1, .., at most 10";
        ClockTree x = new ClockTree();
        due("a refused one takes no number", ARGUMENT, () -> x.node(-1, 0, 0, 0, 0));
        for (int i = 0; i < 10; i++) {
            int number = i;
            due("node " + i, number, () -> x.node(500 - number, 9, 9, 9, 9));
            due("there is none after it", ARGUMENT, () -> x.root(number + 1));
        }
        due("the tenth is there", 491, () -> x.root(9));
        due("an eleventh", STATE, () -> x.node(600, 9, 9, 9, 9));
        due("an eleventh again", STATE, () -> x.node(600, 9, 9, 9, 9));
        due("there is no eleventh", ARGUMENT, () -> x.root(10));
        due("an eleventh with an identity of one", ARGUMENT, () -> x.node(491, 9, 9, 9, 9));
        due("an eleventh with the first one's identity", ARGUMENT, () -> x.node(500, 9, 9, 9, 9));
        due("an eleventh with an identity out of range", ARGUMENT, () -> x.node(10000, 9, 9, 9, 9));
        due("an eleventh with a priority out of range", ARGUMENT, () -> x.node(600, -1, 9, 9, 9));
        due("an eleventh with a class out of range", ARGUMENT, () -> x.node(600, 9, 256, 9, 9));
        due("an eleventh with a lesser priority out of range", ARGUMENT, () -> x.node(600, 9, 9, -1, 9));
    }

    private static void identityIsZeroTo9999() {
        sentence = "an identity is 0 .. 9999";
        ClockTree x = new ClockTree();
        for (int out : new int[] {-1, 10000, LEAST_INT, MOST_INT}) {
            due("identity " + out, ARGUMENT, () -> x.node(out, 0, 0, 0, 0));
        }
        due("identity 0", 0, () -> x.node(0, 0, 0, 0, 0));
        due("identity 9999", 1, () -> x.node(9999, 0, 0, 0, 0));
        due("root(0)", 0, () -> x.root(0));
        due("root(1)", 9999, () -> x.root(1));
    }

    private static void identityIsAnotherOneForEach() {
        sentence = "another identity for each";
        ClockTree x = new ClockTree();
        due("the first", 0, () -> x.node(7, 0, 0, 0, 0));
        due("the same", ARGUMENT, () -> x.node(7, 0, 0, 0, 0));
        due("the same, of other priorities", ARGUMENT, () -> x.node(7, 1, 2, 3, 4));
        due("one more", 1, () -> x.node(8, 0, 0, 0, 0));
        due("one less", 2, () -> x.node(6, 0, 0, 0, 0));
        due("the first one's", ARGUMENT, () -> x.node(7, 0, 0, 0, 0));
        due("the last one's", ARGUMENT, () -> x.node(6, 0, 0, 0, 0));
        due("another object has its own", 0, () -> new ClockTree().node(7, 0, 0, 0, 0));
    }

    private static void prioritiesAreZeroTo255() {
        sentence = "priority, class and lesser priority are 0 .. 255 each";
        ClockTree x = new ClockTree();
        for (int out : new int[] {-1, 256, LEAST_INT, MOST_INT}) {
            due("priority " + out, ARGUMENT, () -> x.node(1, out, 0, 0, 0));
            due("class " + out, ARGUMENT, () -> x.node(1, 0, out, 0, 0));
            due("lesser priority " + out, ARGUMENT, () -> x.node(1, 0, 0, out, 0));
        }
        due("all are least", 0, () -> x.node(1, 0, 0, 0, 0));
        due("priority 255", 1, () -> x.node(2, 255, 0, 0, 0));
        due("class 255", 2, () -> x.node(3, 0, 255, 0, 0));
        due("lesser priority 255", 3, () -> x.node(4, 0, 0, 255, 0));
    }

    private static void offsetIsAnyLong() {
        sentence = "an offset is a long";
        ClockTree x = new ClockTree();
        long[] offsets = {MIN, MAX, 0, -1, 1};
        for (int i = 0; i < offsets.length; i++) {
            int number = i;
            due("node of offset " + offsets[i], number, () -> x.node(number, 0, 0, 0, offsets[number]));
            due("offset " + offsets[i], offsets[i], () -> x.offset(number));
        }
    }

    private static void portsAreZeroToThree() {
        sentence = "ports are 0 .. 3";
        ClockTree x = new ClockTree();
        x.node(1, 1, 1, 1, 0);
        x.node(2, 2, 1, 1, 0);
        for (int out : new int[] {-1, 4, LEAST_INT, MOST_INT}) {
            due("link from port " + out, ARGUMENT, () -> x.link(0, out, 1, 0, 0, 0));
            due("link to port " + out, ARGUMENT, () -> x.link(0, 0, 1, out, 0, 0));
            due("state of port " + out, ARGUMENT, () -> x.state(0, out));
            due("kept of port " + out, ARGUMENT, () -> x.kept(0, out));
        }
        for (int i = 0; i < 4; i++) {
            int port = i;
            due("state of port " + i, OFF, () -> x.state(0, port));
            due("kept of port " + i, -1, () -> x.kept(0, port));
            due("link of port " + i, port, () -> x.link(0, port, 1, 3 - port, 0, 0));
            due("state of port " + i + " with a link", MASTER, () -> x.state(0, port));
        }
    }

    private static ClockTree tenNodes() {
        ClockTree x = new ClockTree();
        for (int i = 0; i < 10; i++) {
            x.node(i, i, 0, 0, 0);
        }
        return x;
    }

    /** Four links between each two of the first eight nodes: 16 is all there may be, though two nodes have none. */
    private static int makeLink(ClockTree x, int number) {
        int first = number / 4 * 2;
        return x.link(first, number % 4, first + 1, number % 4, 1, 1);
    }

    private static void linksAreNumberedAndSixteenAtMost() {
        sentence = "links are numbered likewise, at most 16";
        ClockTree x = tenNodes();
        for (int i = 0; i < 16; i++) {
            int number = i;
            due("link " + i, number, () -> makeLink(x, number));
            dueOfVoid("there is none after it", ARGUMENT, () -> x.up(number + 1, true));
        }
        due("a seventeenth", STATE, () -> x.link(8, 0, 9, 0, 1, 1));
        due("a seventeenth at ports that have one", STATE, () -> x.link(0, 0, 1, 0, 1, 1));
        due("a seventeenth from no node", ARGUMENT, () -> x.link(10, 0, 9, 0, 1, 1));
        due("a seventeenth to no port", ARGUMENT, () -> x.link(8, 0, 9, 4, 1, 1));
        due("a seventeenth to the same node", ARGUMENT, () -> x.link(8, 0, 8, 1, 1, 1));
        due("a seventeenth of a delay out of range", ARGUMENT, () -> x.link(8, 0, 9, 0, 1, -1));
        due("all sixteen send both ways", 32, () -> x.round(1));
        dueOfVoid("up(15)", "nothing", () -> x.up(15, false));
        dueOfVoid("up(16)", ARGUMENT, () -> x.up(16, false));
    }

    private static void linkJoinsTwoNodes() {
        sentence = "a link joins a port of one node with one of another node";
        ClockTree x = new ClockTree();
        due("of no nodes", ARGUMENT, () -> x.link(0, 0, 1, 0, 0, 0));
        x.node(1, 1, 1, 1, 0);
        due("the second node is not there", ARGUMENT, () -> x.link(0, 0, 1, 0, 0, 0));
        due("the first node is not there", ARGUMENT, () -> x.link(1, 0, 0, 0, 0, 0));
        x.node(2, 2, 1, 1, 0);
        for (int out : new int[] {-1, 2, LEAST_INT, MOST_INT}) {
            due("from node " + out, ARGUMENT, () -> x.link(out, 0, 1, 0, 0, 0));
            due("to node " + out, ARGUMENT, () -> x.link(0, 0, out, 0, 0, 0));
        }
        due("two ports of node 0", ARGUMENT, () -> x.link(0, 0, 0, 1, 0, 0));
        due("one port of node 1", ARGUMENT, () -> x.link(1, 2, 1, 2, 0, 0));
        due("from 0 to 1", 0, () -> x.link(0, 0, 1, 0, 0, 0));
        due("another one from 1 to 0", 1, () -> x.link(1, 1, 0, 1, 0, 0));
        due("a node with itself, at a port that has one", ARGUMENT, () -> x.link(0, 0, 0, 1, 0, 0));
    }

    private static void delayIsZeroToTenToTheNinth() {
        sentence = "a delay is 0 .. 10^9";
        ClockTree x = new ClockTree();
        x.node(1, 1, 1, 1, 0);
        x.node(2, 2, 1, 1, 0);
        for (int out : new int[] {-1, LONGEST + 1, LEAST_INT, MOST_INT}) {
            due("there " + out, ARGUMENT, () -> x.link(0, 0, 1, 0, out, 0));
            due("back " + out, ARGUMENT, () -> x.link(0, 0, 1, 0, 0, out));
        }
        due("both are least", 0, () -> x.link(0, 0, 1, 0, 0, 0));
        due("there is longest", 1, () -> x.link(0, 1, 1, 1, LONGEST, 0));
        due("back is longest", 2, () -> x.link(0, 2, 1, 2, 0, LONGEST));
        due("both are longest", 3, () -> x.link(0, 3, 1, 3, LONGEST, LONGEST));
        due("out of range, and the port has one", ARGUMENT, () -> x.link(0, 0, 1, 0, -1, 0));
    }

    private static void linkIsUpAtFirst() {
        sentence = "a link is up at first, or cut";
        ClockTree x = new ClockTree();
        x.node(1, 1, 1, 1, 0);
        x.node(2, 2, 1, 1, 0);
        due("no link", 0, () -> x.round(1));
        x.link(0, 0, 1, 0, 0, 0);
        due("a new link", 2, () -> x.round(1));
        x.up(0, false);
        due("a cut one", 0, () -> x.round(1));
    }

    private static void portHasOneLinkAtMost() {
        sentence = "a port has one link at most";
        ClockTree x = new ClockTree();
        x.node(1, 1, 1, 1, 0);
        x.node(2, 2, 1, 1, 0);
        x.node(3, 3, 1, 1, 0);
        x.link(0, 1, 1, 2, 0, 0);
        due("the first port has one, as first", STATE, () -> x.link(0, 1, 2, 0, 0, 0));
        due("the second port has one, as second", STATE, () -> x.link(2, 0, 1, 2, 0, 0));
        due("the first port has one, as second", STATE, () -> x.link(2, 0, 0, 1, 0, 0));
        due("the second port has one, as first", STATE, () -> x.link(1, 2, 2, 0, 0, 0));
        x.up(0, false);
        due("though it is cut", STATE, () -> x.link(0, 1, 2, 0, 0, 0));
        due("one of the same number at another node", 1, () -> x.link(2, 1, 0, 2, 0, 0));
        due("the next one", 2, () -> x.link(1, 3, 2, 2, 0, 0));
    }

    // Terms: which dataset is better. The later ranks always speak for the other one.

    /** Identity, priority, class and lesser priority of two nodes that a third one hears once. */
    private static ClockTree rivals(int[] a, int[] b) {
        ClockTree x = new ClockTree();
        x.node(a[0], a[1], a[2], a[3], 0);
        x.node(b[0], b[1], b[2], b[3], 0);
        x.node(5000, 255, 255, 255, 0);
        x.link(0, 3, 2, 3, 1, 1);
        x.link(1, 0, 2, 0, 1, 1);
        x.round(1);
        return x;
    }

    private static void dueOfRivals(String name, int[] better, int[] worse) {
        due(name, better[0], () -> rivals(better, worse).root(2));
        due(name + ", the other way", better[0], () -> rivals(worse, better).root(2));
        due(name + ", slave of the better", SLAVE, () -> rivals(better, worse).state(2, 3));
        due(name + ", master of the worse", MASTER, () -> rivals(better, worse).state(2, 0));
    }

    private static void lesserPriorityIsBetter() {
        sentence = "the better one has the lesser priority of the root";
        dueOfRivals("0 and 1", new int[] {9, 0, 255, 255}, new int[] {1, 1, 0, 0});
        dueOfRivals("254 and 255", new int[] {9, 254, 255, 255}, new int[] {1, 255, 0, 0});
        dueOfRivals("0 and 255", new int[] {9, 0, 255, 255}, new int[] {1, 255, 0, 0});
    }

    private static void lesserClassIsBetter() {
        sentence = "or else the lesser class";
        dueOfRivals("0 and 1", new int[] {9, 7, 0, 255}, new int[] {1, 7, 1, 0});
        dueOfRivals("254 and 255", new int[] {9, 7, 254, 255}, new int[] {1, 7, 255, 0});
    }

    private static void lesserLesserPriorityIsBetter() {
        sentence = "or else the lesser lesser priority";
        dueOfRivals("0 and 1", new int[] {9, 7, 7, 0}, new int[] {1, 7, 7, 1});
        dueOfRivals("254 and 255", new int[] {9, 7, 7, 254}, new int[] {1, 7, 7, 255});
    }

    private static void lesserRootIsBetter() {
        sentence = "or else the lesser identity of the root";
        dueOfRivals("0 and 1", new int[] {0, 7, 7, 7}, new int[] {1, 7, 7, 7});
        dueOfRivals("9998 and 9999", new int[] {9998, 7, 7, 7}, new int[] {9999, 7, 7, 7});
        ClockTree x = new ClockTree();
        x.node(10, 1, 1, 1, 0);
        x.node(40, 9, 1, 1, 0);
        x.node(50, 9, 1, 1, 0);
        x.node(11, 1, 1, 1, 0);
        x.link(0, 0, 1, 0, 1, 1);
        x.round(1);
        x.link(1, 1, 2, 1, 1, 1);
        x.link(3, 0, 2, 0, 1, 1);
        x.round(1);
        due("it has more steps, and a greater sender and port", 10010, () -> x.kept(2, 1));
        due("the other one", 11, () -> x.kept(2, 0));
        due("it is the better", SLAVE, () -> x.state(2, 1));
    }

    /** The last node of each network hears of the root over two ways, one of which is a step longer. */
    private static void fewerStepsAreBetter() {
        sentence = "or else the lesser steps";
        ClockTree x = new ClockTree();
        x.node(90, 1, 1, 1, 0);
        x.node(10, 2, 1, 1, 0);
        x.node(50, 3, 1, 1, 0);
        x.link(0, 0, 1, 0, 1, 1);
        x.link(1, 1, 2, 0, 1, 1);
        x.link(0, 3, 2, 3, 1, 1);
        x.round(2);
        due("0 steps, of a greater sender", 90, () -> x.kept(2, 3));
        due("1 step, of a lesser sender", 10090, () -> x.kept(2, 0));
        due("0 steps are better than 1", SLAVE, () -> x.state(2, 3));
        due("steps(2)", 0, () -> x.steps(2));
        ClockTree y = chain(4);
        y.node(1, 200, 5, 5, 0);
        y.link(3, 1, 4, 0, 1, 1);
        y.link(2, 2, 4, 3, 1, 1);
        y.settle();
        due("2 steps are better than 3", SLAVE, () -> y.state(4, 3));
        due("steps(4)", 2, () -> y.steps(4));
    }

    /** Two nodes of one step each, heard by a third one at once. */
    private static ClockTree twoSenders(int first, int second) {
        ClockTree x = new ClockTree();
        x.node(900, 1, 1, 1, 0);
        x.node(first, 2, 1, 1, 0);
        x.node(second, 3, 1, 1, 0);
        x.node(5000, 4, 1, 1, 0);
        x.link(0, 0, 1, 0, 1, 1);
        x.link(0, 1, 2, 0, 1, 1);
        x.link(1, 3, 3, 3, 1, 1);
        x.link(2, 1, 3, 1, 1, 1);
        x.round(2);
        return x;
    }

    private static void lesserSenderIsBetter() {
        sentence = "or else the lesser identity of the sender";
        ClockTree x = twoSenders(10, 11);
        due("10, from a greater port at a greater port", SLAVE, () -> x.state(3, 3));
        due("11", PASSIVE, () -> x.state(3, 1));
        ClockTree y = twoSenders(11, 10);
        due("11, from a greater port at a greater port", PASSIVE, () -> y.state(3, 3));
        due("10", SLAVE, () -> y.state(3, 1));
    }

    /** The last rank, the port at which it was heard, never speaks: one port sends to one port alone. */
    private static void lesserSenderPortIsBetter() {
        sentence = "or else the lesser port of the sender";
        ClockTree x = new ClockTree();
        x.node(90, 1, 1, 1, 0);
        x.node(50, 4, 1, 1, 0);
        x.link(0, 3, 1, 1, 1, 1);
        x.link(0, 2, 1, 2, 1, 1);
        x.link(0, 1, 1, 3, 1, 1);
        x.round(1);
        due("port 1, heard at port 3", SLAVE, () -> x.state(1, 3));
        due("port 2", PASSIVE, () -> x.state(1, 2));
        due("port 3", PASSIVE, () -> x.state(1, 1));
        x.link(0, 0, 1, 0, 1, 1);
        x.round(1);
        due("port 0", SLAVE, () -> x.state(1, 0));
        due("port 1 after that", PASSIVE, () -> x.state(1, 3));
    }

    private static void ownOneIsAmongTheBest() {
        sentence = "the best of those that its ports keep and its own one";
        due("the own one is better by one", 2, () -> pairOf(10, 9).root(1));
        due("the own one is worse by one", 1, () -> pairOf(9, 10).root(1));
        due("all but the identity is the same, at the greater one", 1, () -> pairOf(9, 9).root(1));
        due("all but the identity is the same, at the lesser one", 1, () -> pairOf(9, 9).root(0));
        due("its state is a master's", MASTER, () -> pairOf(9, 9).state(0, 0));
        due("the greater one's state is a slave's", SLAVE, () -> pairOf(9, 9).state(1, 0));
    }

    /** Nodes of the identities 1 and 2 and of these priorities, after a round. */
    private static ClockTree pairOf(int first, int second) {
        ClockTree x = new ClockTree();
        x.node(1, first, 1, 1, 0);
        x.node(2, second, 1, 1, 0);
        x.link(0, 0, 1, 0, 1, 1);
        x.round(1);
        return x;
    }

    // Terms: which ports are off, master, slave or passive.

    private static void offWithoutALink() {
        sentence = "off without a link";
        ClockTree x = chain(2);
        x.round(5);
        due("without", OFF, () -> x.state(1, 1));
        due("with", SLAVE, () -> x.state(1, 0));
        x.up(0, false);
        x.round(5);
        due("a cut link is a link", MASTER, () -> x.state(1, 0));
        due("without, still", OFF, () -> x.state(0, 0));
    }

    private static void slaveKeepsTheBestOne() {
        sentence = "slave is the one that keeps the best one, if that is not its own one";
        ClockTree x = chain(2);
        due("nothing is kept", MASTER, () -> x.state(1, 0));
        x.round(1);
        due("the best one is kept", SLAVE, () -> x.state(1, 0));
        due("one that is worse than the own one is kept", 101, () -> x.kept(0, 1));
        due("its port", MASTER, () -> x.state(0, 1));
        x.up(0, false);
        due("the slave's link is cut", SLAVE, () -> x.state(1, 0));
    }

    private static void toldIsOneStepMoreButTheOwnOne() {
        sentence = "told: one step more than the best one has; but its own one, if it is the best";
        ClockTree x = chain(3);
        x.round(1);
        due("the own one has 0 steps", 100, () -> x.kept(1, 0));
        x.round(1);
        due("one step more than 0", 10100, () -> x.kept(2, 0));
        ClockTree y = chain(10);
        y.settle();
        due("one step more than 7, after nine links", 80100, () -> y.kept(9, 0));
        y.priority(9, 0);
        y.round(1);
        due("the own one again has 0 steps", 109, () -> y.kept(8, 1));
    }

    /**
     * Node 3 is a neighbour of the root, node 0, and of node 2, which is told of the root over
     * node 1 or by the root itself; the link of the nodes 2 and 3 is made last.
     */
    private static ClockTree loopOf(int second, int third, boolean far) {
        ClockTree x = new ClockTree();
        x.node(900, 1, 1, 1, 0);
        x.node(800, 2, 1, 1, 0);
        x.node(second, 3, 1, 1, 0);
        x.node(third, 4, 1, 1, 0);
        x.link(0, 0, 1, 0, 1, 1);
        if (far) {
            x.link(1, 1, 2, 0, 1, 1);
        } else {
            x.link(0, 2, 2, 0, 1, 1);
        }
        x.link(0, 1, 3, 0, 1, 1);
        x.round(3);
        x.link(2, 1, 3, 1, 1, 1);
        x.round(1);
        return x;
    }

    private static void passiveByOneStep() {
        sentence = "passive if it keeps a better one than it is told, by steps";
        ClockTree x = loopOf(10, 20, true);
        due("it keeps one step more, from a lesser sender", 20900, () -> x.kept(3, 1));
        due("so it is a master", MASTER, () -> x.state(3, 1));
        ClockTree y = new ClockTree();
        y.node(900, 1, 1, 1, 0);
        y.node(10, 2, 1, 1, 0);
        y.node(700, 3, 1, 1, 0);
        y.node(20, 5, 1, 1, 0);
        y.link(0, 0, 1, 0, 1, 1);
        y.link(0, 1, 2, 0, 1, 1);
        y.link(1, 1, 3, 0, 1, 1);
        y.link(2, 1, 3, 1, 1, 1);
        y.round(2);
        due("it is told 2 steps and keeps 1 step, from a greater sender", 10900, () -> y.kept(3, 1));
        due("so it is passive", PASSIVE, () -> y.state(3, 1));
    }

    private static void passiveBySender() {
        sentence = "passive if it keeps a better one than it is told, by the sender";
        ClockTree x = loopOf(10, 11, false);
        due("it keeps as many steps as it is told", 10900, () -> x.kept(3, 1));
        due("from a sender one less: passive", PASSIVE, () -> x.state(3, 1));
        due("the other one keeps as many", 10900, () -> x.kept(2, 1));
        due("from a sender one greater: master", MASTER, () -> x.state(2, 1));
        ClockTree y = loopOf(11, 10, false);
        due("the other way: master", MASTER, () -> y.state(3, 1));
        due("the other way: passive", PASSIVE, () -> y.state(2, 1));
    }

    private static void passiveByRoot() {
        sentence = "passive if it keeps a better one than it is told, else master";
        ClockTree x = new ClockTree();
        x.node(5, 5, 1, 1, 0);
        x.node(4, 4, 1, 1, 0);
        x.node(3, 3, 1, 1, 0);
        x.link(0, 0, 1, 0, 1, 1);
        x.link(2, 0, 1, 1, 1, 1);
        x.round(1);
        due("it keeps one of a worse root: master", MASTER, () -> x.state(1, 0));
        due("it keeps the best one: slave", SLAVE, () -> x.state(1, 1));
        due("it keeps none: off", OFF, () -> x.state(1, 2));
        x.priority(1, 2);
        due("the own one is best: master", MASTER, () -> x.state(1, 1));
    }

    private static void statesAreFoundWhenALinkIsMade() {
        sentence = "states are found anew when a link is made";
        ClockTree x = chain(3);
        x.settle();
        x.link(0, 3, 2, 3, 1, 1);
        due("the new port of the root", MASTER, () -> x.state(0, 3));
        due("the new port of a slave", MASTER, () -> x.state(2, 3));
        due("its slave port", SLAVE, () -> x.state(2, 0));
        due("nothing is kept by it", -1, () -> x.kept(2, 3));
        due("two more are sent", 4, () -> x.round(1));
        due("the new port", SLAVE, () -> x.state(2, 3));
        due("the old one", PASSIVE, () -> x.state(2, 0));
    }

    private static void statesAreFoundWhenAPriorityChanges() {
        sentence = "states are found anew when a priority changes";
        ClockTree x = pairOf(9, 20);
        x.priority(1, 10);
        due("worse by one", SLAVE, () -> x.state(1, 0));
        x.priority(1, 9);
        due("the same, of the greater identity", SLAVE, () -> x.state(1, 0));
        x.priority(1, 8);
        due("better by one", MASTER, () -> x.state(1, 0));
        due("root(1)", 2, () -> x.root(1));
        due("the other one has not heard of it", 1, () -> x.root(0));
        x.priority(1, 9);
        due("the same again", SLAVE, () -> x.state(1, 0));
        x.priority(0, 255);
        due("what is kept tells of the priority that was", SLAVE, () -> x.state(1, 0));
        due("the root's port keeps a better one now", SLAVE, () -> x.state(0, 0));
    }

    // A round.

    private static void mastersAloneSend() {
        sentence = "ports that are masters and whose links are up send";
        ClockTree x = loopOf(10, 11, false);
        due("states of the four ends", "1 2 1 3", () -> x.state(0, 1) + " " + x.state(3, 0) + " " + x.state(2, 1) + " " + x.state(3, 1));
        due("the root's three and the one between", 4, () -> x.round(1));
        x.up(3, false);
        due("the one between is cut", 3, () -> x.round(1));
        x.up(0, false);
        due("and one of the root's", 2, () -> x.round(1));
        x.up(1, false);
        x.up(2, false);
        due("all are cut", 0, () -> x.round(1));
    }

    private static void allSendAtOnce() {
        sentence = "all at once";
        ClockTree x = chain(4);
        x.round(1);
        due("a neighbour's own one, up the numbers", "101 102", () -> x.kept(2, 0) + " " + x.kept(3, 0));
        x.round(1);
        due("one link further", "10100 10101", () -> x.kept(2, 0) + " " + x.kept(3, 0));
        x.round(1);
        due("and one further", "10100 20100", () -> x.kept(2, 0) + " " + x.kept(3, 0));
        ClockTree y = chain(4);
        y.priority(3, 1);
        y.round(1);
        due("a neighbour's own one, down the numbers", "102 101", () -> y.kept(1, 1) + " " + y.kept(0, 1));
        y.round(1);
        due("one link further down", 10103, () -> y.kept(1, 1));
        due("not two links further", 100, () -> y.root(0));
    }

    private static void fourteenStepsAreKeptFifteenAreNot() {
        sentence = "unless its steps are 15";
        int size = 4;
        ClockTree x = courierRing(size, 13);
        for (int i = 1; i <= 14; i++) {
            int hop = i;
            int to = courierAt(hop + 1, size);
            carry(x, hop, size);
            due("steps " + hop, hop * 10000 + 13, () -> x.kept(to, 0));
            due("the root there", 13, () -> x.root(to));
        }
        int last = courierAt(15, size);
        int next = courierAt(16, size);
        due("nothing is kept where it goes", -1, () -> x.kept(next, 0));
        due("the last one is a master", MASTER, () -> x.state(last, 1));
        due("15 steps are sent, and the own one of the other end", 2, () -> carry(x, 15, size));
        due("15 steps are not kept", -1, () -> x.kept(next, 0));
        due("the next one has its own root", 20 + next, () -> x.root(next));
        due("steps of the next one", 0, () -> x.steps(next));
        due("the last one keeps its 14", 140013, () -> x.kept(last, 0));
    }

    /** Node 4 hears of 11 steps once more before node 3 is told of 14, and tells it of 15. */
    private static void fifteenStepsLetTheOldOneAge() {
        sentence = "every other port that keeps one makes its age 1 more: one that refuses 15 steps";
        ClockTree x = carried(12, 4, 13);
        x.up(3, true);
        carry(x, 13, 4);
        due("11 steps at age 0", 110013, () -> x.kept(4, 0));
        x.up(3, false);
        carry(x, 14, 4);
        due("node 3 keeps 14 steps", 140013, () -> x.kept(3, 0));
        due("11 steps at age 1", 110013, () -> x.kept(4, 0));
        due("15 steps are sent", 1, () -> carry(x, 15, 4));
        due("11 steps at age 2", 110013, () -> x.kept(4, 0));
        due("15 steps are sent again", 1, () -> carry(x, 15, 4));
        due("none at age 3", -1, () -> x.kept(4, 0));
    }

    /** A root and two others in a ring, one link up at a time, so that the tale comes round to the root. */
    private static ClockTree tripHome() {
        ClockTree x = new ClockTree();
        x.node(10, 1, 1, 1, 0);
        x.node(20, 50, 1, 1, 0);
        x.node(30, 60, 1, 1, 0);
        x.link(0, 0, 1, 0, 1, 1);
        x.link(1, 1, 2, 0, 1, 1);
        x.link(2, 1, 0, 1, 1, 1);
        x.up(1, false);
        x.up(2, false);
        x.round(1);
        x.up(0, false);
        x.up(1, true);
        x.round(1);
        x.up(1, false);
        x.up(2, true);
        return x;
    }

    private static void ownRootIsNotKept() {
        sentence = "or its root is this node";
        ClockTree x = tripHome();
        due("node 2 knows of node 0", 10010, () -> x.kept(2, 0));
        due("node 2 would tell it", MASTER, () -> x.state(2, 1));
        due("both ends send", 2, () -> x.round(1));
        due("node 0 does not keep it", -1, () -> x.kept(0, 1));
        due("node 2 keeps node 0's own one", 10, () -> x.kept(2, 1));
        ClockTree y = tripHome();
        y.priority(2, 0);
        due("a tale of another root", 2, () -> y.round(1));
        due("is kept", 30, () -> y.kept(0, 1));
        ClockTree z = tripHome();
        z.priority(0, 10);
        z.round(1);
        due("though the tale is better than its own one", -1, () -> z.kept(0, 1));
        due("it is its own root", 10, () -> z.root(0));
        due("of no steps", 0, () -> z.steps(0));
    }

    /** Node 0 keeps node 2's own one of an earlier round when node 2 begins to tell it of node 0. */
    private static void ownRootLetsTheOldOneAge() {
        sentence = "every other port that keeps one makes its age 1 more: one that refuses its own root";
        ClockTree x = ownRootSentTo(1);
        due("node 2's own one at age 1", 30, () -> x.kept(0, 1));
        ClockTree y = ownRootSentTo(2);
        due("at age 2", 30, () -> y.kept(0, 1));
        ClockTree z = ownRootSentTo(3);
        due("none at age 3", -1, () -> z.kept(0, 1));
    }

    /**
     * Node 2 goes by node 1's tale of node 0, of a better priority than node 0 has now, and tells
     * that to node 0 in so many rounds after it told of itself.
     */
    private static ClockTree ownRootSentTo(int times) {
        ClockTree x = new ClockTree();
        x.node(10, 1, 1, 1, 0);
        x.node(20, 5, 1, 1, 0);
        x.node(30, 6, 1, 1, 0);
        x.link(0, 0, 1, 0, 1, 1);
        x.link(1, 1, 2, 0, 1, 1);
        x.link(2, 1, 0, 1, 1, 1);
        x.up(1, false);
        x.up(2, false);
        x.round(1);
        x.up(0, false);
        x.priority(0, 255);
        x.up(1, true);
        x.up(2, true);
        x.round(1);
        for (int i = 0; i < times; i++) {
            x.round(1);
        }
        return x;
    }

    private static void ageOfThreeIsDropped() {
        sentence = "keeps none when its age is 3";
        ClockTree x = pairOf(1, 2);
        x.up(0, false);
        for (int age = 1; age <= 2; age++) {
            x.round(1);
            due("kept at age " + age, 1, () -> x.kept(1, 0));
            due("a slave at age " + age, SLAVE, () -> x.state(1, 0));
            due("root at age " + age, 1, () -> x.root(1));
        }
        x.round(1);
        due("kept at age 3", -1, () -> x.kept(1, 0));
        due("a master at age 3", MASTER, () -> x.state(1, 0));
        due("root at age 3", 2, () -> x.root(1));
        x.round(1);
        due("none stays none", -1, () -> x.kept(1, 0));
    }

    private static void ageBeginsAnewWhenHeardAgain() {
        sentence = "keeps that one instead, with age 0";
        ClockTree x = pairOf(1, 2);
        x.up(0, false);
        x.round(2);
        x.up(0, true);
        due("the same one is heard at age 2", 1, () -> x.round(1));
        x.up(0, false);
        x.round(2);
        due("kept at age 2", 1, () -> x.kept(1, 0));
        x.round(1);
        due("kept at age 3", -1, () -> x.kept(1, 0));
        x.up(0, true);
        due("heard once more", 2, () -> x.round(1));
        x.up(0, false);
        x.round(2);
        due("kept at age 2 once more", 1, () -> x.kept(1, 0));
        x.round(1);
        due("kept at age 3 once more", -1, () -> x.kept(1, 0));
    }

    /** The far end of a slave port is silent, for it is a slave itself or passive. */
    private static void otherPortsAgeWhileOneHears() {
        sentence = "every other port that keeps one makes its age 1 more";
        ClockTree x = chain(3);
        x.round(3);
        due("node 2's own one at age 2", 102, () -> x.kept(1, 1));
        due("the other port hears", 100, () -> x.kept(1, 0));
        x.round(1);
        due("node 2's own one at age 3", -1, () -> x.kept(1, 1));
        due("the other port still hears", 100, () -> x.kept(1, 0));
        ClockTree y = loopOf(10, 11, false);
        y.round(2);
        due("what a passive one sent, at age 2", 10900, () -> y.kept(2, 1));
        y.round(1);
        due("what a passive one sent, at age 3", -1, () -> y.kept(2, 1));
        due("what a master sends", 10900, () -> y.kept(3, 1));
    }

    // An exchange.

    private static void restsAreTakenOff() {
        sentence = "two rests, 0 .. 10^6";
        ClockTree x = pair(0, 0, 0, 0);
        for (int out : new int[] {-1, REST + 1, LEAST_INT, MOST_INT}) {
            due("r " + out, ARGUMENT, () -> x.exchange(1, 0, out, 0));
            due("s " + out, ARGUMENT, () -> x.exchange(1, 0, 0, out));
        }
        due("no rests", 0, () -> x.exchange(1, 0, 0, 0));
        due("r is longest", 0, () -> x.exchange(1, 0, REST, 0));
        due("delay(1)", 0, () -> x.delay(1));
        due("s is longest", 0, () -> x.exchange(1, 0, 0, REST));
        due("delay(1) again", 0, () -> x.delay(1));
        due("both are longest", 0, () -> x.exchange(1, 0, REST, REST));
        due("with the longest delays", 0, () -> pair(0, 0, LONGEST, LONGEST).exchange(1, 0, REST, REST));
        due("a rest out of range, at no node", ARGUMENT, () -> x.exchange(2, 0, -1, 0));
        due("a rest out of range, at a master", ARGUMENT, () -> x.exchange(0, 0, 0, REST + 1));
        due("a rest out of range, and it overflows", ARGUMENT, () -> x.exchange(1, MAX, REST + 1, 0));
    }

    /** The thousand counts only for what fits: it is taken off by neither x nor y. */
    private static void thousandLiesBetween() {
        sentence = "1000 later this node sends";
        due("the answer comes at the last moment", 0, () -> pair(0, 0, 0, 0).exchange(1, MAX - 1000, 0, 0));
        due("and a moment later", ARITHMETIC, () -> pair(0, 0, 0, 0).exchange(1, MAX - 999, 0, 0));
        due("it is no part of the delay", 0, () -> delayAfter(pair(0, 0, 0, 0)));
    }

    private static long delayAfter(ClockTree x) {
        x.exchange(1, 0, 0, 0);
        return x.delay(1);
    }

    private static void delaysOfBothWays() {
        sentence = "the master, whose delays to this node and back are d and e";
        due("d longest, e least", LONGEST / 2, () -> pair(0, 0, LONGEST, 0).exchange(1, 0, 0, 0));
        due("d least, e longest", -LONGEST / 2, () -> pair(0, 0, 0, LONGEST).exchange(1, 0, 0, 0));
        due("both longest", LONGEST, () -> delayAfter(pair(0, 0, LONGEST, LONGEST)));
        due("both least", 0, () -> delayAfter(pair(0, 0, 0, 0)));
        ClockTree x = new ClockTree();
        x.node(2, 2, 1, 1, 0);
        x.node(1, 1, 1, 1, 0);
        x.link(0, 0, 1, 0, LONGEST, 0);
        x.round(1);
        due("the slave is the link's first one", -LONGEST / 2, () -> x.exchange(0, 0, 0, 0));
    }

    private static void slavePortOfEachNumber() {
        sentence = "an exchange is done by its slave port, over its link, with the node at the other end";
        for (int i = 0; i < 4; i++) {
            int port = i;
            ClockTree x = fourMasters(port);
            due("slave port " + i, SLAVE, () -> x.state(0, port));
            due("offset found over port " + i, -1000 * (i + 1), () -> x.exchange(0, 0, 0, 0));
            due("delay found over port " + i, 10 + i, () -> x.delay(0));
            ClockTree y = fourMasters(port);
            due("discipline over port " + i, 1, () -> y.discipline(0));
            due("offset set over port " + i, 1000 * (i + 1), () -> y.offset(0));
            ClockTree z = fourMasters(port);
            z.up(port, false);
            due("port " + i + " is cut", STATE, () -> z.exchange(0, 0, 0, 0));
            z.up(port, true);
            z.up((port + 1) % 4, false);
            due("another one than port " + i + " is cut", -1000 * (i + 1), () -> z.exchange(0, 0, 0, 0));
        }
    }

    /** Node 0 with a better node of offset 1000 * (p + 1), 10 + p away, at each of its ports p; the best is at this port. */
    private static ClockTree fourMasters(int best) {
        ClockTree x = new ClockTree();
        x.node(9, 99, 1, 1, 0);
        for (int port = 0; port < 4; port++) {
            x.node(10 + port, port == best ? 1 : 2, 1, 1, 1000 * (port + 1));
        }
        for (int port = 0; port < 4; port++) {
            x.link(0, port, port + 1, 3 - port, 10 + port, 10 + port);
        }
        x.round(1);
        return x;
    }

    private static void cutTowardsZero() {
        sentence = "both cut towards 0";
        due("offset of 1 / 2", 0, () -> pair(0, 0, 1, 0).exchange(1, 0, 0, 0));
        due("offset of -1 / 2", 0, () -> pair(0, 0, 0, 1).exchange(1, 0, 0, 0));
        due("offset of 3 / 2", 1, () -> pair(0, 0, 3, 0).exchange(1, 0, 0, 0));
        due("offset of -3 / 2", -1, () -> pair(0, 0, 0, 3).exchange(1, 0, 0, 0));
        due("offset of 2 / 2", 1, () -> pair(0, 0, 2, 0).exchange(1, 0, 0, 0));
        due("offset of -2 / 2", -1, () -> pair(0, 0, 0, 2).exchange(1, 0, 0, 0));
        due("delay of 1 / 2", 0, () -> delayAfter(pair(0, 0, 1, 0)));
        due("delay of 3 / 2", 1, () -> delayAfter(pair(0, 0, 1, 2)));
        due("delay of 1999999999 / 2", LONGEST - 1, () -> delayAfter(pair(0, 0, LONGEST, LONGEST - 1)));
        ClockTree x = pair(0, 10, 0, 3);
        due("offset of 17 / 2", 8, () -> x.exchange(1, 0, 0, 0));
        due("the new offset is less by that", 2, () -> x.offset(1));
        due("offset of 1 / 2 then", 0, () -> x.exchange(1, 0, 0, 0));
        due("the offset stays", 2, () -> x.offset(1));
    }

    // What makes an exchange overflow. The clocks are chosen so that all else fits.

    private static void trueTimes() {
        sentence = "overflows if a true time does not fit";
        long back = -10000000000L;
        due("the last one is MAX", 0, () -> pair(back, back, 70, 70).exchange(1, MAX - 1140, 0, 0));
        due("the last one is past MAX", ARITHMETIC, () -> pair(back, back, 70, 70).exchange(1, MAX - 1139, 0, 0));
        due("MAX, by r", 0, () -> pair(back, back, 70, 70).exchange(1, MAX - 1140 - REST, REST, 0));
        due("past MAX, by r", ARITHMETIC, () -> pair(back, back, 70, 70).exchange(1, MAX - 1139 - REST, REST, 0));
        due("MAX, by s", 0, () -> pair(back, back, 70, 70).exchange(1, MAX - 1140 - REST, 0, REST));
        due("past MAX, by s", ARITHMETIC, () -> pair(back, back, 70, 70).exchange(1, MAX - 1139 - REST, 0, REST));
        long all = 2L * LONGEST + 2L * REST + 1000;
        due("MAX, all are longest", 0, () -> pair(back, back, LONGEST, LONGEST).exchange(1, MAX - all, REST, REST));
        due("past MAX, all are longest", ARITHMETIC,
                () -> pair(back, back, LONGEST, LONGEST).exchange(1, MAX - all + 1, REST, REST));
        due("the node sends at MAX", ARITHMETIC, () -> pair(back, back, 70, 70).exchange(1, MAX - 1070, 0, 0));
        due("it comes at MAX", ARITHMETIC, () -> pair(back, back, 70, 70).exchange(1, MAX - 70, 0, 0));
        due("the master sends at MAX", ARITHMETIC, () -> pair(back, back, 70, 70).exchange(1, MAX, 0, 0));
        due("the master sends at MIN", 0, () -> pair(0, 0, 70, 70).exchange(1, MIN, 0, 0));
    }

    private static void firstTime() {
        sentence = "overflows if t1 does not fit";
        due("t1 is MIN", 3, () -> pair(-5, -2, 0, 0).exchange(1, MIN + 5, 0, 0));
        due("t1 is less than MIN", ARITHMETIC, () -> pair(-5, -2, 0, 0).exchange(1, MIN + 4, 0, 0));
        due("t1 is MIN, at MIN", 7, () -> pair(0, 7, 0, 0).exchange(1, MIN, 0, 0));
        due("t1 is less than MIN, at MIN", ARITHMETIC, () -> pair(-1, 7, 0, 0).exchange(1, MIN, 0, 0));
        due("t1 is greater than MAX", ARITHMETIC, () -> pair(2000, 0, 0, 0).exchange(1, MAX - 1999, 0, 0));
    }

    private static void secondTime() {
        sentence = "overflows if t2 does not fit";
        due("t2 is MIN", -4, () -> pair(0, -4, 0, 0).exchange(1, MIN + 4, 0, 0));
        due("t2 is less than MIN", ARITHMETIC, () -> pair(0, -4, 0, 0).exchange(1, MIN + 3, 0, 0));
        due("t2 is MIN, by the delay", -9, () -> pair(0, -9, 5, 5).exchange(1, MIN + 4, 0, 0));
        due("t2 is less than MIN, by the delay", ARITHMETIC, () -> pair(0, -9, 5, 5).exchange(1, MIN + 3, 0, 0));
        due("t2 is MIN, by r", -9, () -> pair(0, -9, 0, 0).exchange(1, MIN + 4, 5, 0));
        due("t2 is less than MIN, by r", ARITHMETIC, () -> pair(0, -9, 0, 0).exchange(1, MIN + 3, 5, 0));
        due("t2 is greater than MAX", ARITHMETIC, () -> pair(0, 9000, 0, 0).exchange(1, MAX - 8999, 0, 0));
    }

    private static void thirdTime() {
        sentence = "overflows if t3 does not fit";
        due("t3 is MAX", 9000, () -> pair(0, 9000, 0, 0).exchange(1, MAX - 10000, 0, 0));
        due("t3 is greater than MAX, t2 is not", ARITHMETIC, () -> pair(0, 9000, 0, 0).exchange(1, MAX - 9999, 0, 0));
        due("t3 is MAX, by the delay", 9000, () -> pair(0, 9000, 60, 60).exchange(1, MAX - 10060, 0, 0));
        due("t3 is greater than MAX, by the delay", ARITHMETIC,
                () -> pair(0, 9000, 60, 60).exchange(1, MAX - 10059, 0, 0));
        due("t3 is MAX, by r", 9000, () -> pair(0, 9000, 0, 0).exchange(1, MAX - 10060, 60, 0));
        due("t3 is greater than MAX, by r", ARITHMETIC, () -> pair(0, 9000, 0, 0).exchange(1, MAX - 10059, 60, 0));
    }

    private static void fourthTime() {
        sentence = "overflows if t4 does not fit";
        due("t4 is MAX", -9, () -> pair(9, 0, 60, 60).exchange(1, MAX - 1129, 0, 0));
        due("t4 is greater than MAX, a true time is not", ARITHMETIC,
                () -> pair(9, 0, 60, 60).exchange(1, MAX - 1128, 0, 0));
        due("t4 is MAX, by s", -9, () -> pair(9, 0, 60, 60).exchange(1, MAX - 1139, 0, 10));
        due("t4 is greater than MAX, by s", ARITHMETIC, () -> pair(9, 0, 60, 60).exchange(1, MAX - 1138, 0, 10));
        due("t4 is MAX, by r", -9, () -> pair(9, 0, 60, 60).exchange(1, MAX - 1139, 10, 0));
        due("t4 is greater than MAX, by r", ARITHMETIC, () -> pair(9, 0, 60, 60).exchange(1, MAX - 1138, 10, 0));
    }

    /** Where one of these does not fit, x - y does not either, which is why there is no inside. */
    private static void differences() {
        sentence = "overflows if t2 - t1, t4 - t3, x or y does not fit";
        due("t2 - t1 is MAX + 1", ARITHMETIC, () -> pair(-HALF, HALF, 0, 0).exchange(1, 0, 0, 0));
        due("t2 - t1 is MIN - 1", ARITHMETIC, () -> pair(HALF, -HALF - 1, 0, 0).exchange(1, 0, 0, 0));
        due("t2 - t1 is MAX + 1, x is MAX", ARITHMETIC, () -> pair(-HALF, HALF - 1, 0, 0).exchange(1, 0, 1, 0));
        due("t4 - t3 is MAX + 1, y is MAX", ARITHMETIC, () -> pair(HALF, 1 - HALF, 0, 0).exchange(1, -5000, 0, 1));
        due("x is MIN - 1", ARITHMETIC, () -> pair(HALF, -HALF - 1, 0, 0).exchange(1, 0, 1, 0));
        due("y is MIN - 1", ARITHMETIC, () -> pair(-HALF, HALF + 1, 0, 0).exchange(1, -5000, 0, 1));
        due("all are far out", ARITHMETIC, () -> pair(MIN, MAX, 0, 0).exchange(1, 0, 0, 0));
        due("all are far out, the other way", ARITHMETIC, () -> pair(MAX, MIN, 0, 0).exchange(1, -5000, 0, 0));
    }

    private static void differenceOfXAndY() {
        sentence = "overflows if x - y does not fit";
        due("x - y is MAX - 1", HALF - 1, () -> pair(0, HALF - 1, 0, 0).exchange(1, 0, 0, 0));
        due("x - y is MAX", HALF - 1, () -> pair(0, HALF - 1, 1, 0).exchange(1, 0, 0, 0));
        due("x - y is MAX + 1", ARITHMETIC, () -> pair(0, HALF, 0, 0).exchange(1, 0, 0, 0));
        due("x - y is MAX + 1, by the delays", ARITHMETIC, () -> pair(0, HALF - 1, 2, 0).exchange(1, 0, 0, 0));
        due("x - y is MIN", -HALF, () -> pair(0, -HALF, 0, 0).exchange(1, 0, 0, 0));
        due("x - y is MIN, by the delays", -HALF, () -> pair(0, 1 - HALF, 0, 2).exchange(1, 0, 0, 0));
        due("x - y is MIN - 1", ARITHMETIC, () -> pair(0, -HALF, 0, 1).exchange(1, 0, 0, 0));
        due("x - y is MIN - 2", ARITHMETIC, () -> pair(0, -HALF - 1, 0, 0).exchange(1, 0, 0, 0));
        due("of two clocks far apart", HALF - 1, () -> pair(-HALF / 2, HALF / 2 - 1, 0, 0).exchange(1, 0, 0, 0));
        due("of two clocks farther apart", ARITHMETIC, () -> pair(-HALF / 2, HALF / 2, 0, 0).exchange(1, 0, 0, 0));
        due("rests do not count", HALF - 1, () -> pair(0, HALF - 1, 1, 0).exchange(1, 0, REST, REST));
    }

    private static void newOffset() {
        sentence = "overflows if the new offset does not fit";
        long early = -10000000000L;
        ClockTree x = pair(MAX - 500, MAX - 500, 0, 1000);
        due("it is MAX", -500, () -> x.exchange(1, early, 0, 0));
        due("offset(1) is MAX", MAX, () -> x.offset(1));
        due("it is MAX + 1", ARITHMETIC, () -> pair(MAX - 499, MAX - 499, 0, 1000).exchange(1, early, 0, 0));
        ClockTree y = pair(MIN + 500, MIN + 500, 1000, 0);
        due("it is MIN", 500, () -> y.exchange(1, -early, 0, 0));
        due("offset(1) is MIN", MIN, () -> y.offset(1));
        due("it is MIN - 1", ARITHMETIC, () -> pair(MIN + 499, MIN + 499, 1000, 0).exchange(1, -early, 0, 0));
    }

    // The promises.

    private static void firstOfTheHeadingIsThrown() {
        sentence = "what is thrown: the first of those listed in the heading that holds";
        ClockTree full = tenNodes();
        for (int i = 0; i < 16; i++) {
            makeLink(full, i);
        }
        due("node: argument and state", ARGUMENT, () -> full.node(0, 1, 1, 1, 1));
        due("node: state alone", STATE, () -> full.node(10, 1, 1, 1, 1));
        due("link: argument and both states", ARGUMENT, () -> full.link(0, 0, 1, 0, -1, 0));
        due("link: argument and one state", ARGUMENT, () -> full.link(8, 0, 8, 1, 0, 0));
        due("link: both states", STATE, () -> full.link(0, 0, 1, 0, 0, 0));
        due("link: state alone", STATE, () -> full.link(8, 0, 9, 0, 0, 0));
        ClockTree x = pair(0, 0, 0, 0);
        due("exchange: argument, state and overflow", ARGUMENT, () -> x.exchange(0, MAX, -1, 0));
        due("exchange: argument and state", ARGUMENT, () -> x.exchange(0, 0, 0, REST + 1));
        due("exchange: argument and overflow", ARGUMENT, () -> x.exchange(1, MAX, 0, -1));
        due("exchange: no such node, and overflow", ARGUMENT, () -> x.exchange(2, MAX, 0, 0));
        due("exchange: state and overflow", STATE, () -> x.exchange(0, MAX, 0, 0));
        due("exchange: overflow alone", ARITHMETIC, () -> x.exchange(1, MAX, 0, 0));
        due("exchange: none of them", 0, () -> x.exchange(1, 0, 0, 0));
        x.up(0, false);
        due("exchange: cut, and overflow", STATE, () -> x.exchange(1, MAX, 0, 0));
        due("exchange: cut, overflow and argument", ARGUMENT, () -> x.exchange(1, MAX, -1, -1));
    }

    private static void lastCallIsAnswered() {
        sentence = "an object is used for at most 512 calls";
        ClockTree x = pair(0, 0, 0, 0);
        for (int call = 5; call <= 511; call++) {
            x.round(50);
        }
        due("the 512th call", 50, () -> x.round(50));
    }

    private static void newObjectHasNoNodes() {
        sentence = "a new object has no nodes";
        due("root(0)", ARGUMENT, () -> new ClockTree().root(0));
        due("steps(0)", ARGUMENT, () -> new ClockTree().steps(0));
        due("delay(0)", ARGUMENT, () -> new ClockTree().delay(0));
        due("offset(0)", ARGUMENT, () -> new ClockTree().offset(0));
        due("state(0, 0)", ARGUMENT, () -> new ClockTree().state(0, 0));
        due("kept(0, 0)", ARGUMENT, () -> new ClockTree().kept(0, 0));
        due("exchange(0, 0, 0, 0)", ARGUMENT, () -> new ClockTree().exchange(0, 0, 0, 0));
        dueOfVoid("priority(0, 0)", ARGUMENT, () -> new ClockTree().priority(0, 0));
        dueOfVoid("up(0, true)", ARGUMENT, () -> new ClockTree().up(0, true));
        due("round(1)", 0, () -> new ClockTree().round(1));
        due("round(50)", 0, () -> new ClockTree().round(50));
        due("round(0)", ARGUMENT, () -> new ClockTree().round(0));
        due("round(51)", ARGUMENT, () -> new ClockTree().round(51));
        due("settle()", 1, () -> new ClockTree().settle());
        due("discipline(MAX)", 0, () -> new ClockTree().discipline(MAX));
        due("the first node", 0, () -> new ClockTree().node(3, 3, 3, 3, 3));
    }

    private static void upOfLinks() {
        sentence = "up: there is no such link";
        ClockTree x = chain(3);
        for (int out : new int[] {-1, 2, 16, LEAST_INT, MOST_INT}) {
            dueOfVoid("up(" + out + ", true)", ARGUMENT, () -> x.up(out, true));
            dueOfVoid("up(" + out + ", false)", ARGUMENT, () -> x.up(out, false));
        }
        dueOfVoid("up(0, false)", "nothing", () -> x.up(0, false));
        due("the first is cut", 2, () -> x.round(1));
        dueOfVoid("up(1, false)", "nothing", () -> x.up(1, false));
        due("both are cut", 0, () -> x.round(1));
        dueOfVoid("up(1, false), as it is", "nothing", () -> x.up(1, false));
        due("cut twice is cut", 0, () -> x.round(1));
        dueOfVoid("up(1, true)", "nothing", () -> x.up(1, true));
        due("one time up is up", true, () -> x.round(1) > 0);
    }

    private static void upChangesNothingAtOnce() {
        sentence = "up: states, and what is kept, change by rounds alone";
        ClockTree x = pairOf(1, 2);
        x.up(0, false);
        due("cut", "1 2 2 1 1", () -> look(x));
        x.up(0, true);
        due("up", "1 2 2 1 1", () -> look(x));
        x.up(0, false);
        x.round(3);
        due("none is kept", "1 1 -1 -1 2", () -> look(x));
        x.up(0, true);
        due("up, and not yet heard", "1 1 -1 -1 2", () -> look(x));
    }

    /** States of both ends, what they keep, and the second one's root. */
    private static String look(ClockTree x) {
        return x.state(0, 0) + " " + x.state(1, 0) + " " + x.kept(0, 0) + " " + x.kept(1, 0) + " " + x.root(1);
    }

    private static void priorityOfNodes() {
        sentence = "priority: there is no such node, or it is out of range";
        ClockTree x = chain(3);
        for (int out : new int[] {-1, 3, 10, LEAST_INT, MOST_INT}) {
            dueOfVoid("of node " + out, ARGUMENT, () -> x.priority(out, 0));
        }
        for (int out : new int[] {-1, 256, LEAST_INT, MOST_INT}) {
            dueOfVoid("priority " + out, ARGUMENT, () -> x.priority(0, out));
            dueOfVoid("priority " + out + " of no node", ARGUMENT, () -> x.priority(3, out));
        }
        dueOfVoid("255 of node 0", "nothing", () -> x.priority(0, 255));
        dueOfVoid("0 of node 2", "nothing", () -> x.priority(2, 0));
        x.settle();
        due("root(0)", 102, () -> x.root(0));
        dueOfVoid("0 of node 0", "nothing", () -> x.priority(0, 0));
        x.settle();
        due("root(2), by identity", 100, () -> x.root(2));
    }

    private static void roundsAreOneToFifty() {
        sentence = "round: n is not 1 .. 50";
        ClockTree x = pairOf(1, 2);
        for (int out : new int[] {0, -1, 51, LEAST_INT, MOST_INT}) {
            due("round(" + out + ")", ARGUMENT, () -> x.round(out));
        }
        due("round(1)", 1, () -> x.round(1));
        due("round(50)", 50, () -> x.round(50));
        due("round(49)", 49, () -> x.round(49));
        due("the first of two sends twice", 3, () -> twoMasters().round(2));
        due("and all of fifty", 51, () -> twoMasters().round(50));
        due("none of one that is cut", 0, () -> cutAtOnce().round(50));
    }

    private static ClockTree twoMasters() {
        ClockTree x = new ClockTree();
        x.node(1, 1, 1, 1, 0);
        x.node(2, 2, 1, 1, 0);
        x.link(0, 0, 1, 0, 1, 1);
        return x;
    }

    private static ClockTree cutAtOnce() {
        ClockTree x = twoMasters();
        x.up(0, false);
        return x;
    }

    private static void settleIsOneAtLeast() {
        sentence = "settle: one round at least";
        due("no nodes", 1, () -> new ClockTree().settle());
        due("no sending", 1, () -> cutAtOnce().settle());
        ClockTree x = pairOf(1, 2);
        x.round(10);
        due("all is settled", 1, () -> x.settle());
        x.up(0, false);
        due("only the age is another", 1, () -> x.settle());
        due("only the age is another again: the round was played", 1, () -> x.settle());
        due("the third round drops it, the fourth one changes nothing", 2, () -> x.settle());
        due("none is kept", -1, () -> x.kept(1, 0));
    }

    private static void settleLooksAtWhatIsKept() {
        sentence = "settle: every port keeps what it kept before";
        ClockTree w = pairOf(1, 2);
        w.round(2);
        due("a master's port keeps a worse one, at age 2", 2, () -> w.kept(0, 0));
        due("to drop it is a change, though all states stay", 2, () -> w.settle());
        due("none is kept", -1, () -> w.kept(0, 0));
        ClockTree x = pairOf(1, 20);
        x.round(10);
        x.priority(0, 2);
        due("the same root of another priority is another one", 2, () -> x.settle());
        due("and then the same", 1, () -> x.settle());
        ClockTree y = chain(3);
        y.settle();
        y.settle();
        y.settle();
        y.priority(0, 9);
        due("it goes two links far", 3, () -> y.settle());
    }

    /** States follow from what is kept, so that none changes in a round in which that stays. */
    private static void settleCountsTheQuietRound() {
        sentence = "settle: how many, with that one";
        ClockTree x = chain(10);
        due("nine links and one round more", 10, () -> x.settle());
        due("the last one", 80100, () -> x.kept(9, 0));
        due("the last one's state", SLAVE, () -> x.state(9, 0));
    }

    /**
     * No network settles in more than 58 rounds, so that there is no outside: a tale whose root is
     * lost gets a step longer in 3 rounds at most, and so is dropped by round 45; then what is true
     * goes over 9 links at most (or over 8, and then between two nodes that heard it at once); what
     * was told before that is dropped 3 rounds later; and the round that changes nothing is the last.
     * The longest settling that a search found is this one.
     */
    private static void settleIsSixtyAtMost() {
        sentence = "settle: but 60 at most";
        ClockTree x = slowToSettle();
        due("all but the longest settling", 55, () -> x.settle());
        due("root at the far end", 7, () -> x.root(9));
        due("steps at the far end", 8, () -> x.steps(9));
        due("all is settled then", 1, () -> x.settle());
        ClockTree y = slowToSettle();
        y.round(50);
        due("the last changes are in the rounds 51 to 54", 5, () -> y.settle());
    }

    /**
     * The nodes 0 and 1 tell each other of node 3, which was the best, over three links, so that
     * its tale gets a step longer in each three rounds; node 2, the best now, is hidden behind
     * node 0 until the tale ends, and the nodes 3 to 9 are a chain that begins at node 1.
     */
    private static ClockTree slowToSettle() {
        int[] identities = {6, 10, 7, 3, 5, 8, 2, 4, 9, 1};
        int[] priorities = {7, 7, 4, 4, 13, 16, 18, 18, 18, 6};
        ClockTree x = new ClockTree();
        for (int i = 0; i < 10; i++) {
            x.node(identities[i], priorities[i], 0, 0, 0);
        }
        x.link(0, 1, 1, 2, 0, 0);
        x.link(0, 2, 1, 1, 0, 0);
        x.link(0, 3, 1, 3, 0, 0);
        x.link(0, 0, 2, 0, 0, 0);
        x.link(1, 0, 3, 0, 0, 0);
        for (int i = 3; i < 9; i++) {
            x.link(i, 1, i + 1, 0, 0, 0);
        }
        x.up(2, false);
        x.up(1, false);
        x.round(2);
        x.up(2, true);
        x.priority(3, 2);
        x.round(1);
        x.up(1, true);
        x.priority(3, 18);
        return x;
    }

    private static void lookingAtNodes() {
        sentence = "root, steps, delay, offset and exchange: there is no such node";
        ClockTree x = chain(2);
        for (int out : new int[] {-1, 2, 9, 10, LEAST_INT, MOST_INT}) {
            due("root(" + out + ")", ARGUMENT, () -> x.root(out));
            due("steps(" + out + ")", ARGUMENT, () -> x.steps(out));
            due("delay(" + out + ")", ARGUMENT, () -> x.delay(out));
            due("offset(" + out + ")", ARGUMENT, () -> x.offset(out));
            due("exchange(" + out + ", 0, 0, 0)", ARGUMENT, () -> x.exchange(out, 0, 0, 0));
        }
        for (int i = 0; i < 2; i++) {
            int node = i;
            due("root(" + i + ")", 100 + i, () -> x.root(node));
            due("steps(" + i + ")", 0, () -> x.steps(node));
            due("delay(" + i + ")", -1, () -> x.delay(node));
            due("offset(" + i + ")", 0, () -> x.offset(node));
            due("exchange(" + i + ", 0, 0, 0)", STATE, () -> x.exchange(node, 0, 0, 0));
        }
    }

    private static void lookingAtPorts() {
        sentence = "state and kept: there is no such node or port";
        ClockTree x = chain(2);
        for (int out : new int[] {-1, 2, 10, LEAST_INT, MOST_INT}) {
            due("state(" + out + ", 0)", ARGUMENT, () -> x.state(out, 0));
            due("kept(" + out + ", 0)", ARGUMENT, () -> x.kept(out, 0));
            due("state(" + out + ", 4)", ARGUMENT, () -> x.state(out, 4));
        }
        for (int out : new int[] {-1, 4, LEAST_INT, MOST_INT}) {
            due("state(1, " + out + ")", ARGUMENT, () -> x.state(1, out));
            due("kept(1, " + out + ")", ARGUMENT, () -> x.kept(1, out));
        }
        due("state(1, 0)", MASTER, () -> x.state(1, 0));
        due("state(1, 3)", OFF, () -> x.state(1, 3));
        due("kept(1, 0)", -1, () -> x.kept(1, 0));
        due("kept(1, 3)", -1, () -> x.kept(1, 3));
    }

    private static void keptOfNoneAndOfZero() {
        sentence = "kept: 10000 * steps + the identity of the root; -1 for none";
        due("the identity 0 and no steps", 0, () -> keptOfRoot(0, 0));
        due("the identity 9999 and no steps", 9999, () -> keptOfRoot(9999, 0));
        due("the identity 0 and 1 step", 10000, () -> keptOfRoot(0, 1));
        due("the identity 9999 and 14 steps", 149999, () -> keptOfRoot(9999, 14));
        due("the identity 0 and 14 steps", 140000, () -> keptOfRoot(0, 14));
        due("none", -1, () -> keptOfRoot(9999, 15));
    }

    private static int keptOfRoot(int identity, int steps) {
        ClockTree x = carried(steps, 4, identity);
        return steps == 0 ? x.kept(1, 2) : x.kept(courierAt(steps + 1, 4), 0);
    }

    private static void exchangeNeedsASlaveWithALinkThatIsUp() {
        sentence = "exchange: it has no slave port, or that port's link is cut";
        ClockTree x = chain(2);
        due("nothing is heard yet", STATE, () -> x.exchange(1, 0, 0, 0));
        x.round(1);
        due("the slave", 0, () -> x.exchange(1, 0, 0, 0));
        due("the root", STATE, () -> x.exchange(0, 0, 0, 0));
        due("the root, though it would overflow", STATE, () -> x.exchange(0, MAX, 0, 0));
        x.up(0, false);
        due("cut", STATE, () -> x.exchange(1, 0, 0, 0));
        due("cut, though it would overflow", STATE, () -> x.exchange(1, MAX, 0, 0));
        due("cut, and a rest is out of range", ARGUMENT, () -> x.exchange(1, 0, 0, -1));
        x.round(2);
        x.up(0, true);
        due("up again, at age 2", 0, () -> x.exchange(1, 0, 0, 0));
        x.up(0, false);
        x.round(1);
        x.up(0, true);
        due("up again, at age 3", STATE, () -> x.exchange(1, 0, 0, 0));
        ClockTree y = new ClockTree();
        y.node(1, 1, 1, 1, 0);
        y.node(2, 2, 1, 1, 0);
        y.link(0, 0, 1, 0, 1, 1);
        y.link(0, 1, 1, 1, 9, 9);
        y.round(1);
        y.up(0, false);
        due("a passive port does not stand in", STATE, () -> y.exchange(1, 0, 0, 0));
        due("nor in discipline", 0, () -> y.discipline(0));
        due("the passive port", PASSIVE, () -> y.state(1, 1));
    }

    private static void delayBeforeTheFirstExchange() {
        sentence = "delay: -1 before the first exchange";
        ClockTree x = pair(0, 5, 0, 0);
        due("before", -1, () -> x.delay(1));
        due("one that is refused", ARGUMENT, () -> x.exchange(1, 0, -1, 0));
        due("before, still", -1, () -> x.delay(1));
        due("one that overflows", ARITHMETIC, () -> x.exchange(1, MAX, 0, 0));
        due("before, still, after that", -1, () -> x.delay(1));
        due("discipline that overflows", 0, () -> x.discipline(MAX));
        due("before, still, after discipline", -1, () -> x.delay(1));
        due("the first", 5, () -> x.exchange(1, 0, 0, 0));
        due("after", 0, () -> x.delay(1));
        due("the master has had none", -1, () -> x.delay(0));
        ClockTree y = pair(0, 5, 6, 8);
        y.discipline(0);
        due("discipline counts", 7, () -> y.delay(1));
    }

    /** Offsets 8, 4, 2, 1 would wander if a node were set before its master. */
    private static void disciplineBySteps() {
        sentence = "discipline: those with fewer steps first, of the same steps the lesser node";
        ClockTree x = new ClockTree();
        x.node(40, 4, 1, 1, 1);
        x.node(30, 3, 1, 1, 2);
        x.node(20, 2, 1, 1, 4);
        x.node(10, 1, 1, 1, 8);
        x.link(3, 0, 2, 0, 0, 0);
        x.link(2, 1, 1, 0, 0, 0);
        x.link(1, 1, 0, 0, 0, 0);
        due("no slaves", 0, () -> x.discipline(0));
        x.settle();
        due("three slaves", 3, () -> x.discipline(0));
        due("all by the root", "8 8 8 8", () -> offsets(x));
        ClockTree y = oldTales(0, 1);
        due("steps of all are 0", "0 0 0", () -> y.steps(0) + " " + y.steps(1) + " " + y.steps(2));
        due("two slaves", 2, () -> y.discipline(0));
        due("the lesser node is set first, by the clock that was", 100, () -> y.offset(0));
        ClockTree z = oldTales(1, 0);
        due("two slaves again", 2, () -> z.discipline(0));
        due("the lesser node is set first, the other by the clock that is", 0, () -> z.offset(1));
    }

    /** Two nodes of the same steps, of which the one of number last goes by that of number middle, which goes by node 2. */
    private static ClockTree oldTales(int last, int middle) {
        ClockTree x = new ClockTree();
        for (int i = 0; i < 2; i++) {
            x.node(i == last ? 30 : 20, i == last ? 30 : 20, 1, 1, i == last ? 1000 : 100);
        }
        x.node(10, 10, 1, 1, 0);
        x.link(middle, 1, last, 0, 0, 0);
        x.link(2, 0, middle, 0, 0, 0);
        x.round(1);
        return x;
    }

    private static String offsets(ClockTree x) {
        return x.offset(0) + " " + x.offset(1) + " " + x.offset(2) + " " + x.offset(3);
    }

    private static void disciplineOfFourteenSteps() {
        sentence = "discipline: of each node that has a slave port whose link is up";
        int size = 4;
        ClockTree x = carried(14, size, 13);
        int last = courierAt(15, size);
        due("14 steps", 14, () -> x.steps(last));
        due("all links are cut", 0, () -> x.discipline(0));
        x.up(courierAt(14, size), true);
        due("the link of the last one is up", 1, () -> x.discipline(0));
        due("it was set", 5, () -> x.delay(last));
        for (int i = 1; i <= size; i++) {
            int node = i;
            due("delay(" + i + ")", node == last ? 5 : -1, () -> x.delay(node));
        }
    }

    private static void disciplineAtTheEdgeOfTime() {
        sentence = "discipline: how many did not overflow (the others change nothing)";
        due("the last true time is MAX", 1, () -> pair(0, 0, 40, 60).discipline(MAX - 1100));
        due("the last true time is past MAX", 0, () -> pair(0, 0, 40, 60).discipline(MAX - 1099));
        due("t1 is MIN", 1, () -> pair(-1, 0, 0, 0).discipline(MIN + 1));
        due("t1 is less than MIN", 0, () -> pair(-1, 0, 0, 0).discipline(MIN));
        ClockTree x = new ClockTree();
        x.node(1, 1, 1, 1, 0);
        x.node(2, 2, 1, 1, HALF);
        x.node(3, 3, 1, 1, HALF - 1);
        x.link(0, 0, 1, 0, 0, 0);
        x.link(0, 1, 2, 0, 0, 0);
        x.settle();
        due("one of two overflows", 1, () -> x.discipline(0));
        due("its offset", HALF, () -> x.offset(1));
        due("its delay", -1, () -> x.delay(1));
        due("the other one's offset", 0, () -> x.offset(2));
        due("the other one's delay", 0, () -> x.delay(2));
    }
}
