public final class ClockTree {
    private static final int MOST_NODES = 10;
    private static final int MOST_LINKS = 16;
    private static final int PORTS = 4;
    private static final int MOST_IDENTITY = 9999;
    private static final int MOST_PRIORITY = 255;
    private static final int MOST_DELAY = 1000000000;
    private static final int MOST_REST = 1000000;
    private static final int MOST_ROUNDS = 50;
    private static final int MOST_SETTLING = 60;
    private static final int STEPS_REFUSED = 15;
    private static final int AGE_DROPPED = 3;
    private static final int TURNAROUND = 1000;
    private static final int STEP_WEIGHT = 10000;
    private static final int NOWHERE = -1;

    private static final int OFF = 0;
    private static final int MASTER = 1;
    private static final int SLAVE = 2;
    private static final int PASSIVE = 3;

    private final Node[] nodes;
    private final Link[] links;
    private final Reckoner reckoner;
    private int nodeCount;
    private int linkCount;
    private boolean changedInRound;

    public ClockTree() {
        nodes = new Node[MOST_NODES];
        links = new Link[MOST_LINKS];
        reckoner = new Reckoner();
        nodeCount = 0;
        linkCount = 0;
        changedInRound = false;
    }

    public int node(int identity, int priority, int kind, int lesser, long offset)
            throws IllegalArgumentException, IllegalStateException {
        if (!isWithin(identity, MOST_IDENTITY) || !isWithin(priority, MOST_PRIORITY)
                || !isWithin(kind, MOST_PRIORITY) || !isWithin(lesser, MOST_PRIORITY)) {
            throw new IllegalArgumentException("a value is out of range");
        }
        if (hasIdentity(identity)) {
            throw new IllegalArgumentException("there is a node with this identity");
        }
        if (nodeCount >= MOST_NODES) {
            throw new IllegalStateException("there are 10 nodes");
        }
        Node made = new Node(nodeCount, offset);
        made.own.setOwn(identity, priority, kind, lesser);
        made.findStates();
        nodes[nodeCount] = made;
        nodeCount++;
        return made.number;
    }

    public int link(int a, int p, int b, int q, int there, int back)
            throws IllegalArgumentException, IllegalStateException {
        Port first = portAt(a, p);
        Port second = portAt(b, q);
        if (a == b) {
            throw new IllegalArgumentException("a link joins two nodes");
        }
        if (!isWithin(there, MOST_DELAY) || !isWithin(back, MOST_DELAY)) {
            throw new IllegalArgumentException("a delay is out of range");
        }
        if (linkCount >= MOST_LINKS) {
            throw new IllegalStateException("there are 16 links");
        }
        if (first.link != null || second.link != null) {
            throw new IllegalStateException("a port has a link");
        }
        Link made = new Link(first, second, there, back);
        first.link = made;
        second.link = made;
        nodes[a].findStates();
        nodes[b].findStates();
        links[linkCount] = made;
        linkCount++;
        return linkCount - 1;
    }

    public void up(int link, boolean is) throws IllegalArgumentException {
        if (link < 0 || link >= linkCount) {
            throw new IllegalArgumentException("there is no such link");
        }
        links[link].isUp = is;
    }

    public void priority(int node, int priority) throws IllegalArgumentException {
        Node changed = nodeAt(node);
        if (!isWithin(priority, MOST_PRIORITY)) {
            throw new IllegalArgumentException("the priority is out of range");
        }
        changed.own.priority = priority;
        changed.findStates();
    }

    public int round(int n) throws IllegalArgumentException {
        if (n < 1 || n > MOST_ROUNDS) {
            throw new IllegalArgumentException("rounds are 1 to 50");
        }
        int sent = 0;
        for (int i = 0; i < n; i++) {
            sent += playRound();
        }
        return sent;
    }

    public int settle() {
        int rounds = 0;
        do {
            playRound();
            rounds++;
        } while (changedInRound && rounds < MOST_SETTLING);
        return rounds;
    }

    public int state(int node, int port) throws IllegalArgumentException {
        return portAt(node, port).state;
    }

    public int root(int node) throws IllegalArgumentException {
        return nodeAt(node).best.root;
    }

    public int steps(int node) throws IllegalArgumentException {
        return nodeAt(node).best.steps;
    }

    public int kept(int node, int port) throws IllegalArgumentException {
        Port asked = portAt(node, port);
        if (!asked.keeps) {
            return -1;
        }
        return STEP_WEIGHT * asked.kept.steps + asked.kept.root;
    }

    public long exchange(int node, long t, int r, int s)
            throws IllegalArgumentException, IllegalStateException, ArithmeticException {
        Node setting = nodeAt(node);
        if (!isWithin(r, MOST_REST) || !isWithin(s, MOST_REST)) {
            throw new IllegalArgumentException("a rest is out of range");
        }
        Port slave = openSlaveOf(setting);
        if (slave == null) {
            throw new IllegalStateException("no slave port with a link that is up");
        }
        if (!setClock(setting, slave, t, r, s)) {
            throw new ArithmeticException("the exchange overflows");
        }
        return reckoner.offsetFound;
    }

    public long delay(int node) throws IllegalArgumentException {
        return nodeAt(node).delayFound;
    }

    public long offset(int node) throws IllegalArgumentException {
        return nodeAt(node).offset;
    }

    public int discipline(long t) {
        int done = 0;
        for (int steps = 0; steps < STEPS_REFUSED; steps++) {
            for (int i = 0; i < nodeCount; i++) {
                if (nodes[i].best.steps == steps && setsClock(nodes[i], t)) {
                    done++;
                }
            }
        }
        return done;
    }

    private static boolean isWithin(int value, int most) {
        return value >= 0 && value <= most;
    }

    private boolean hasIdentity(int identity) {
        for (int i = 0; i < nodeCount; i++) {
            if (nodes[i].own.root == identity) {
                return true;
            }
        }
        return false;
    }

    private Node nodeAt(int number) {
        if (number < 0 || number >= nodeCount) {
            throw new IllegalArgumentException("there is no such node");
        }
        return nodes[number];
    }

    private Port portAt(int node, int port) {
        Node owner = nodeAt(node);
        if (port < 0 || port >= PORTS) {
            throw new IllegalArgumentException("there is no such port");
        }
        return owner.ports[port];
    }

    /** Hearing leaves states and what ports are told alone, so that all send at once. */
    private int playRound() {
        changedInRound = false;
        int sent = 0;
        for (int i = 0; i < nodeCount; i++) {
            sent += hearAtPorts(nodes[i]);
        }
        for (int i = 0; i < nodeCount; i++) {
            if (nodes[i].findStates()) {
                changedInRound = true;
            }
        }
        return sent;
    }

    private int hearAtPorts(Node node) {
        int heard = 0;
        for (int i = 0; i < PORTS; i++) {
            Port port = node.ports[i];
            Port sender = port.findSender();
            if (sender != null) {
                heard++;
            }
            boolean changed;
            if (sender != null && node.accepts(sender.told)) {
                changed = port.keep(sender.told);
            } else {
                // A port that refuses what it is sent is one of those that grow older: it does not keep that one instead.
                changed = port.growOlder();
            }
            if (changed) {
                changedInRound = true;
            }
        }
        return heard;
    }

    /** The node's slave port if its link is up, else null. */
    private static Port openSlaveOf(Node node) {
        int number = node.best.heardAt;
        if (number < 0 || number >= PORTS) {
            return null;
        }
        Port slave = node.ports[number];
        return slave.link != null && slave.link.isUp ? slave : null;
    }

    private boolean setsClock(Node node, long t) {
        Port slave = openSlaveOf(node);
        return slave != null && setClock(node, slave, t, 0, 0);
    }

    /** False, with nothing changed, if the exchange overflows. */
    private boolean setClock(Node node, Port slave, long t, int r, int s) {
        Link link = slave.link;
        Node master = nodes[link.farFrom(slave).owner];
        reckoner.noteTimes(t, link.delayTo(slave) + r, link.delayFrom(slave) + s);
        reckoner.noteClocks(master.offset, node.offset);
        reckoner.find(node.offset, r, s);
        if (reckoner.overflowed) {
            return false;
        }
        node.offset = reckoner.newOffset;
        node.delayFound = reckoner.delayFound;
        return true;
    }

    private static final class Dataset {
        int priority;
        int kind;
        int lesser;
        int root;
        int steps;
        int sender;
        int senderPort;
        int heardAt;

        void setOwn(int identity, int newPriority, int newKind, int newLesser) {
            priority = newPriority;
            kind = newKind;
            lesser = newLesser;
            root = identity;
            steps = 0;
            sender = identity;
            senderPort = NOWHERE;
            heardAt = NOWHERE;
        }

        void setRootOf(Dataset other) {
            priority = other.priority;
            kind = other.kind;
            lesser = other.lesser;
            root = other.root;
        }

        boolean betterThan(Dataset other) {
            if (priority != other.priority) {
                return priority < other.priority;
            }
            if (kind != other.kind) {
                return kind < other.kind;
            }
            if (lesser != other.lesser) {
                return lesser < other.lesser;
            }
            if (root != other.root) {
                return root < other.root;
            }
            if (steps != other.steps) {
                return steps < other.steps;
            }
            if (sender != other.sender) {
                return sender < other.sender;
            }
            if (senderPort != other.senderPort) {
                return senderPort < other.senderPort;
            }
            return heardAt < other.heardAt;
        }

        boolean tellsSameAs(Dataset other) {
            return priority == other.priority && kind == other.kind && lesser == other.lesser
                    && root == other.root && steps == other.steps
                    && sender == other.sender && senderPort == other.senderPort;
        }
    }

    private static final class Port {
        final int owner;
        final int number;
        final Dataset kept;
        final Dataset told;
        boolean keeps;
        int age;
        int state;
        Link link;

        Port(int owner, int number) {
            this.owner = owner;
            this.number = number;
            kept = new Dataset();
            told = new Dataset();
            keeps = false;
            age = 0;
            state = OFF;
            link = null;
        }

        /** The port that sends to this one in a round, or null. */
        Port findSender() {
            if (link == null || !link.isUp) {
                return null;
            }
            Port far = link.farFrom(this);
            return far.state == MASTER ? far : null;
        }

        /** True if this is not what the port kept before. */
        boolean keep(Dataset sent) {
            boolean isNew = !keeps || !kept.tellsSameAs(sent);
            kept.setRootOf(sent);
            kept.steps = sent.steps;
            kept.sender = sent.sender;
            kept.senderPort = sent.senderPort;
            kept.heardAt = number;
            keeps = true;
            age = 0;
            return isNew;
        }

        /** True if what the port kept is dropped. */
        boolean growOlder() {
            if (!keeps) {
                return false;
            }
            age++;
            if (age < AGE_DROPPED) {
                return false;
            }
            keeps = false;
            return true;
        }

        void tell(Dataset best, Dataset own) {
            told.setRootOf(best);
            told.steps = best == own ? 0 : best.steps + 1;
            told.sender = own.root;
            told.senderPort = number;
            told.heardAt = number;
        }

        int findState(Dataset best) {
            if (link == null) {
                return OFF;
            }
            if (best == kept) {
                return SLAVE;
            }
            return keeps && kept.betterThan(told) ? PASSIVE : MASTER;
        }
    }

    private static final class Node {
        final int number;
        final Dataset own;
        final Port[] ports;
        Dataset best;
        long offset;
        long delayFound;

        Node(int number, long offset) {
            this.number = number;
            this.offset = offset;
            delayFound = -1;
            own = new Dataset();
            best = own;
            ports = new Port[PORTS];
            for (int i = 0; i < PORTS; i++) {
                ports[i] = new Port(number, i);
            }
        }

        boolean accepts(Dataset sent) {
            return sent.steps < STEPS_REFUSED && sent.root != own.root;
        }

        /** True if the state of a port is another one than before. */
        boolean findStates() {
            best = findBest();
            boolean changed = false;
            for (int i = 0; i < PORTS; i++) {
                Port port = ports[i];
                port.tell(best, own);
                int found = port.findState(best);
                if (found != port.state) {
                    changed = true;
                }
                port.state = found;
            }
            return changed;
        }

        private Dataset findBest() {
            Dataset found = own;
            for (int i = 0; i < PORTS; i++) {
                if (ports[i].keeps && ports[i].kept.betterThan(found)) {
                    found = ports[i].kept;
                }
            }
            return found;
        }
    }

    private static final class Link {
        final Port first;
        final Port second;
        final int there;
        final int back;
        boolean isUp;

        Link(Port first, Port second, int there, int back) {
            this.first = first;
            this.second = second;
            this.there = there;
            this.back = back;
            isUp = true;
        }

        Port farFrom(Port port) {
            return port == first ? second : first;
        }

        int delayTo(Port port) {
            return port == first ? back : there;
        }

        int delayFrom(Port port) {
            return port == first ? there : back;
        }
    }

    /** Reckons one exchange; once a value does not fit a long, overflowed stays true. */
    private static final class Reckoner {
        boolean overflowed;
        long offsetFound;
        long delayFound;
        long newOffset;
        private long sentByMaster;
        private long cameToSlave;
        private long sentBySlave;
        private long cameToMaster;
        private long t1;
        private long t2;
        private long t3;
        private long t4;

        void noteTimes(long t, int towards, int back) {
            overflowed = false;
            sentByMaster = t;
            cameToSlave = plus(sentByMaster, towards);
            sentBySlave = plus(cameToSlave, TURNAROUND);
            cameToMaster = plus(sentBySlave, back);
        }

        void noteClocks(long masterOffset, long slaveOffset) {
            t1 = plus(sentByMaster, masterOffset);
            t2 = plus(cameToSlave, slaveOffset);
            t3 = plus(sentBySlave, slaveOffset);
            t4 = plus(cameToMaster, masterOffset);
        }

        void find(long oldOffset, int r, int s) {
            long x = minus(minus(t2, t1), r);
            long y = minus(minus(t4, t3), s);
            offsetFound = minus(x, y) / 2;
            delayFound = plus(x, y) / 2;
            newOffset = minus(oldOffset, offsetFound);
        }

        private long plus(long a, long b) {
            long sum = a + b;
            if (((a ^ sum) & (b ^ sum)) < 0) {
                overflowed = true;
            }
            return sum;
        }

        private long minus(long a, long b) {
            long difference = a - b;
            if (((a ^ b) & (a ^ difference)) < 0) {
                overflowed = true;
            }
            return difference;
        }
    }
}
