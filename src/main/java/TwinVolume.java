/** A device of 32 blocks that is kept on two disks, one at each of two nodes. */
public final class TwinVolume {
    public static final int BAD = -1;
    public static final int DOWN = -2;
    public static final int SECONDARY = -3;
    public static final int FULL = -4;
    public static final int BUSY = -5;
    public static final int UNSOUND = -6;
    public static final int RIVAL = -7;
    public static final int SPLIT = -8;
    public static final int LINKED = -9;
    public static final int BACKWARD = -10;

    private static final int BLOCK_COUNT = 32;
    private static final int EXTENT_BLOCKS = 4;
    private static final int EXTENT_MASK = 15;
    private static final int ALL_BLOCKS = -1;
    private static final int LOG_LIMIT = 3;
    private static final int WRITE_LIMIT = 300;
    private static final int PENDING_LIMIT = 8;
    private static final int UNDER_WAY_LIMIT = 4;

    // One node has at most 8 DATA, 8 ACK, 4 COPY, 4 COPIED and one FINISH on the way.
    private static final int OUTBOX_LIMIT = 25;

    private static final int NONE = -1;

    private static final int PENDING = 1;
    private static final int ACKNOWLEDGED = 2;
    private static final int ALONE = 3;
    private static final int LOST = 4;

    private static final int DATA = 1;
    private static final int ACK = 2;
    private static final int COPY = 3;
    private static final int COPIED = 4;
    private static final int FINISH = 5;

    private final Node zero;
    private final Node one;
    private final WriteTable writes;
    private boolean linked;
    private int greatestGeneration;

    public TwinVolume() {
        zero = new Node(0);
        one = new Node(1);
        writes = new WriteTable();
        linked = false;
        greatestGeneration = 1;
    }

    public int write(int node, int block, int value) {
        if (!isNode(node) || !isBlock(block)) {
            return BAD;
        }
        Node writer = nodeOf(node);
        if (!writer.up) {
            return DOWN;
        }
        if (!writer.primary) {
            return SECONDARY;
        }
        if (writes.isFull() || writes.countPending(node) >= PENDING_LIMIT) {
            return FULL;
        }
        int extent = block / EXTENT_BLOCKS;
        int pending = writes.pendingBlocks(node);
        int place = writer.extents.placeFor(extent, pending);
        if (place == NONE) {
            return BUSY;
        }
        writer.extents.putInFront(extent, place);
        writer.disk[block] = value;
        int epoch = writer.epochOfNextWrite(hasBlock(pending, block));
        int number = writes.accept(node, block, value, epoch);
        if (linked) {
            writer.outbox.send(DATA, number, 0);
        } else {
            endUpAlone(number);
        }
        return number;
    }

    public boolean barrier(int node) {
        if (!isNode(node)) {
            return false;
        }
        Node asked = nodeOf(node);
        if (!asked.up || !asked.primary) {
            return false;
        }
        asked.epochIsOver = true;
        return true;
    }

    public int deliver(int from) {
        if (!isNode(from)) {
            return 0;
        }
        Outbox outbox = nodeOf(from).outbox;
        if (outbox.size == 0) {
            return 0;
        }
        int kind = outbox.kindOfFirst();
        int subject = outbox.subjectOfFirst();
        int value = outbox.valueOfFirst();
        outbox.dropFirst();
        arrive(peerOf(from), kind, subject, value);
        return kind;
    }

    public int store(int node, int k) {
        if (!isNode(node)) {
            return 0;
        }
        Node keeper = nodeOf(node);
        WaitingList waiting = keeper.waiting;
        if (k < 0 || k >= waiting.size) {
            return 0;
        }
        int number = waiting.numberAt(k);
        // Writes arrive in the order of their epochs, so the first one that waits is of the earliest.
        if (writes.epochs[number] != writes.epochs[waiting.numberAt(0)]) {
            return 0;
        }
        waiting.remove(k);
        keeper.disk[writes.blocks[number]] = writes.values[number];
        keeper.outbox.send(ACK, number, 0);
        return number;
    }

    public int copy(int node) {
        if (!isNode(node)) {
            return NONE;
        }
        Node sender = nodeOf(node);
        if (!sender.source || Integer.bitCount(sender.underWay) >= UNDER_WAY_LIMIT) {
            return NONE;
        }
        int block = leastBlock(sender.map & ~sender.underWay & ~writes.pendingBlocks(node));
        if (block == NONE) {
            return NONE;
        }
        sender.underWay |= 1 << block;
        sender.outbox.send(COPY, block, sender.disk[block]);
        return block;
    }

    public int connect() {
        if (!zero.up || !one.up) {
            return DOWN;
        }
        if (linked) {
            return LINKED;
        }
        if (zero.primary && one.primary) {
            return RIVAL;
        }
        if (wentDifferentWays()) {
            return SPLIT;
        }
        int source = chooseSource();
        if (source == NONE) {
            linked = true;
            return 0;
        }
        if (peerOf(source).primary) {
            return BACKWARD;
        }
        linked = true;
        beginUpdate(nodeOf(source), peerOf(source));
        return 1 + source;
    }

    public boolean cut() {
        if (!linked) {
            return false;
        }
        breakLink();
        return true;
    }

    public boolean crash(int node) {
        if (!isNode(node) || !nodeOf(node).up) {
            return false;
        }
        Node fallen = nodeOf(node);
        fallen.up = false;
        writes.changeFates(node, PENDING, LOST);
        writes.changeFates(node, ALONE, LOST);
        if (fallen.primary) {
            fallen.crashed = true;
            fallen.primary = false;
        }
        if (linked) {
            breakLink();
        }
        return true;
    }

    public boolean restart(int node) {
        if (!isNode(node) || nodeOf(node).up) {
            return false;
        }
        Node risen = nodeOf(node);
        risen.up = true;
        if (risen.crashed) {
            risen.map |= risen.extents.allBlocks();
        }
        return true;
    }

    public int promote(int node) {
        if (!isNode(node)) {
            return BAD;
        }
        Node asked = nodeOf(node);
        if (!asked.up) {
            return DOWN;
        }
        if (asked.torn) {
            return UNSOUND;
        }
        if (linked && peerOf(node).primary) {
            return RIVAL;
        }
        asked.primary = true;
        return 0;
    }

    public int demote(int node) {
        if (!isNode(node)) {
            return BAD;
        }
        Node asked = nodeOf(node);
        if (!asked.up) {
            return DOWN;
        }
        if (!asked.primary) {
            return SECONDARY;
        }
        if (writes.countPending(node) > 0) {
            return BUSY;
        }
        asked.primary = false;
        return 0;
    }

    public boolean discard(int node) {
        if (!isNode(node) || linked) {
            return false;
        }
        Node asked = nodeOf(node);
        if (!asked.up || asked.primary || peerOf(node).torn) {
            return false;
        }
        asked.torn = true;
        asked.crashed = false;
        asked.current = 0;
        asked.base = 0;
        asked.map = 0;
        writes.changeFates(node, ALONE, LOST);
        return true;
    }

    public int disk(int node, int block) {
        return isNode(node) && isBlock(block) ? nodeOf(node).disk[block] : 0;
    }

    public int fate(int write) {
        return writes.has(write) ? writes.fates[write] : 0;
    }

    public int state(int node) {
        if (!isNode(node)) {
            return BAD;
        }
        Node asked = nodeOf(node);
        int sum = asked.up ? 1 : 0;
        sum += asked.primary ? 2 : 0;
        sum += asked.torn ? 4 : 0;
        sum += asked.crashed ? 8 : 0;
        sum += linked ? 16 : 0;
        sum += asked.source ? 32 : 0;
        sum += asked.target ? 64 : 0;
        return sum;
    }

    public long generation(int node) {
        return isNode(node) ? ((long) nodeOf(node).current << 32) + nodeOf(node).base : 0L;
    }

    public int map(int node) {
        return isNode(node) ? nodeOf(node).map : 0;
    }

    public int log(int node, int k) {
        return isNode(node) ? nodeOf(node).extents.extentAt(k) : NONE;
    }

    public int traffic(int node) {
        if (!isNode(node)) {
            return 0;
        }
        Node asked = nodeOf(node);
        return asked.outbox.size + 100 * asked.waiting.size + 10000 * Integer.bitCount(asked.underWay);
    }

    private static boolean isNode(int node) {
        return node == 0 || node == 1;
    }

    private static boolean isBlock(int block) {
        return block >= 0 && block < BLOCK_COUNT;
    }

    private static boolean hasBlock(int set, int block) {
        return (set >>> block & 1) != 0;
    }

    private static int leastBlock(int set) {
        for (int block = 0; block < BLOCK_COUNT; block++) {
            if (hasBlock(set, block)) {
                return block;
            }
        }
        return NONE;
    }

    private static int blocksOfExtent(int extent) {
        return EXTENT_MASK << extent * EXTENT_BLOCKS;
    }

    private Node nodeOf(int node) {
        return node == 0 ? zero : one;
    }

    private Node peerOf(int node) {
        return node == 0 ? one : zero;
    }

    private void arrive(Node node, int kind, int subject, int value) {
        switch (kind) {
            case DATA:
                node.waiting.add(subject);
                break;
            case ACK:
                takeAck(node, subject);
                break;
            case COPY:
                node.disk[subject] = value;
                node.outbox.send(COPIED, subject, 0);
                break;
            case COPIED:
                node.underWay &= ~(1 << subject);
                takeFromMap(node, subject);
                break;
            case FINISH:
                node.takeFinish(subject);
                break;
            default:
                break;
        }
    }

    private void takeAck(Node node, int number) {
        writes.fates[number] = ACKNOWLEDGED;
        if (node.source) {
            takeFromMap(node, writes.blocks[number]);
        }
    }

    private void takeFromMap(Node node, int block) {
        node.map &= ~(1 << block);
        if (node.map == 0) {
            end(node);
        }
    }

    private void end(Node node) {
        node.source = false;
        node.crashed = false;
        node.base = 0;
        writes.changeFates(node.id, ALONE, ACKNOWLEDGED);
        node.outbox.send(FINISH, node.current, 0);
    }

    private void endUpAlone(int number) {
        writes.fates[number] = ALONE;
        Node node = nodeOf(writes.owners[number]);
        node.map |= 1 << writes.blocks[number];
        if (node.base == 0) {
            node.base = node.current;
            greatestGeneration++;
            node.current = greatestGeneration;
        }
    }

    private void breakLink() {
        linked = false;
        zero.leaveLink();
        one.leaveLink();
        for (int number = 1; number <= writes.count; number++) {
            if (writes.fates[number] == PENDING) {
                endUpAlone(number);
            }
        }
    }

    private boolean wentDifferentWays() {
        return !zero.torn && !one.torn && zero.current != one.current
                && zero.base != one.current && one.base != zero.current;
    }

    /** The node that is to be SOURCE of two whose disks did not go different ways, or NONE. */
    private int chooseSource() {
        if (zero.torn || one.torn) {
            return one.torn ? 0 : 1;
        }
        if (zero.current != one.current) {
            return zero.base == one.current ? 0 : 1;
        }
        if (!zero.crashed && !one.crashed) {
            return NONE;
        }
        if (zero.primary != one.primary) {
            return zero.primary ? 0 : 1;
        }
        return zero.crashed ? 0 : 1;
    }

    private void beginUpdate(Node source, Node target) {
        boolean known = target.current != 0
                && (target.current == source.current || target.current == source.base);
        source.map = known ? source.map | target.map : ALL_BLOCKS;
        source.source = true;
        target.target = true;
        target.torn = true;
        if (source.map == 0) {
            end(source);
        }
    }

    private static final class Node {
        final int id;
        final int[] disk;
        final ExtentLog extents;
        final Outbox outbox;
        final WaitingList waiting;
        int map;
        int current;
        int base;
        boolean torn;
        boolean crashed;
        boolean up;
        boolean primary;
        boolean source;
        boolean target;
        int underWay;
        int epoch;
        boolean epochIsOver;

        Node(int id) {
            this.id = id;
            disk = new int[BLOCK_COUNT];
            extents = new ExtentLog();
            outbox = new Outbox();
            waiting = new WaitingList();
            current = 1;
            up = true;
            // The first write has no epoch before it to belong to.
            epochIsOver = true;
        }

        int epochOfNextWrite(boolean sameBlockIsPending) {
            if (epochIsOver || sameBlockIsPending) {
                epoch++;
            }
            epochIsOver = false;
            return epoch;
        }

        void takeFinish(int generationNumber) {
            target = false;
            torn = false;
            crashed = false;
            map = 0;
            current = generationNumber;
            base = 0;
        }

        void leaveLink() {
            outbox.size = 0;
            waiting.size = 0;
            underWay = 0;
            source = false;
            target = false;
        }
    }

    /** The last used extents of a node, the most recently used one first. */
    private static final class ExtentLog {
        private final int[] extents;
        private int size;

        ExtentLog() {
            extents = new int[LOG_LIMIT];
        }

        int extentAt(int k) {
            return k >= 0 && k < size ? extents[k] : NONE;
        }

        /** The place that becomes free when the extent goes to the front, or NONE. */
        int placeFor(int extent, int pendingBlocks) {
            for (int place = 0; place < size; place++) {
                if (extents[place] == extent) {
                    return place;
                }
            }
            if (size < LOG_LIMIT) {
                return size;
            }
            for (int place = size - 1; place >= 0; place--) {
                if ((blocksOfExtent(extents[place]) & pendingBlocks) == 0) {
                    return place;
                }
            }
            return NONE;
        }

        void putInFront(int extent, int place) {
            if (place < 0 || place >= LOG_LIMIT) {
                return;
            }
            for (int to = place; to > 0; to--) {
                extents[to] = extents[to - 1];
            }
            extents[0] = extent;
            if (place == size) {
                size++;
            }
        }

        int allBlocks() {
            int blocks = 0;
            for (int place = 0; place < size; place++) {
                blocks |= blocksOfExtent(extents[place]);
            }
            return blocks;
        }
    }

    /** The messages that are on the way from a node, in a ring. */
    private static final class Outbox {
        private final int[] kinds;
        private final int[] subjects;
        private final int[] values;
        private int first;
        int size;

        Outbox() {
            kinds = new int[OUTBOX_LIMIT];
            subjects = new int[OUTBOX_LIMIT];
            values = new int[OUTBOX_LIMIT];
        }

        void send(int kind, int subject, int value) {
            if (size >= OUTBOX_LIMIT) {
                return;
            }
            int place = (first + size) % OUTBOX_LIMIT;
            kinds[place] = kind;
            subjects[place] = subject;
            values[place] = value;
            size++;
        }

        int kindOfFirst() {
            return kinds[first];
        }

        int subjectOfFirst() {
            return subjects[first];
        }

        int valueOfFirst() {
            return values[first];
        }

        void dropFirst() {
            if (size > 0) {
                first = (first + 1) % OUTBOX_LIMIT;
                size--;
            }
        }
    }

    /** The peer's writes that wait at a node, in the order in which they arrived. */
    private static final class WaitingList {
        private final int[] numbers;
        int size;

        WaitingList() {
            // What waits is PENDING at the peer, so it can't be more than that.
            numbers = new int[PENDING_LIMIT];
        }

        void add(int number) {
            if (size < PENDING_LIMIT) {
                numbers[size] = number;
                size++;
            }
        }

        int numberAt(int k) {
            return k >= 0 && k < size ? numbers[k] : 0;
        }

        void remove(int k) {
            if (k < 0 || k >= size) {
                return;
            }
            for (int to = k; to < size - 1; to++) {
                numbers[to] = numbers[to + 1];
            }
            size--;
        }
    }

    /** All accepted writes; row 0 is not used, as numbers begin at 1. */
    private static final class WriteTable {
        final int[] owners;
        final int[] blocks;
        final int[] values;
        final int[] epochs;
        final int[] fates;
        int count;

        WriteTable() {
            owners = new int[WRITE_LIMIT + 1];
            blocks = new int[WRITE_LIMIT + 1];
            values = new int[WRITE_LIMIT + 1];
            epochs = new int[WRITE_LIMIT + 1];
            fates = new int[WRITE_LIMIT + 1];
        }

        boolean isFull() {
            return count >= WRITE_LIMIT;
        }

        boolean has(int number) {
            return number >= 1 && number <= count;
        }

        int accept(int owner, int block, int value, int epoch) {
            if (isFull()) {
                return 0;
            }
            count++;
            owners[count] = owner;
            blocks[count] = block;
            values[count] = value;
            epochs[count] = epoch;
            fates[count] = PENDING;
            return count;
        }

        int countPending(int owner) {
            int pending = 0;
            for (int number = 1; number <= count; number++) {
                if (isPendingOf(owner, number)) {
                    pending++;
                }
            }
            return pending;
        }

        int pendingBlocks(int owner) {
            int set = 0;
            for (int number = 1; number <= count; number++) {
                if (isPendingOf(owner, number)) {
                    set |= 1 << blocks[number];
                }
            }
            return set;
        }

        void changeFates(int owner, int from, int to) {
            for (int number = 1; number <= count; number++) {
                if (owners[number] == owner && fates[number] == from) {
                    fates[number] = to;
                }
            }
        }

        private boolean isPendingOf(int owner, int number) {
            return owners[number] == owner && fates[number] == PENDING;
        }
    }
}
