/** Objects in states that many tests begin with, and what can be seen of an object. */
final class Scene {
    static final int[] NODES = {0, 1};
    /** The arguments that are no node; all else of a call is as good as can be. */
    static final int[] NO_NODES = {-1, 2, 3, Integer.MIN_VALUE, Integer.MAX_VALUE};
    static final int[] NO_BLOCKS = {-1, 32, 33, Integer.MIN_VALUE, Integer.MAX_VALUE};

    private static final int FATES_SEEN = 10;

    private Scene() {
    }

    static long generation(int current, int base) {
        return current * (1L << 32) + base;
    }

    static TwinVolume linked(int primary) {
        TwinVolume x = new TwinVolume();
        x.connect();
        x.promote(primary);
        return x;
    }

    /** Not linked, with one PRIMARY. */
    static TwinVolume alone(int primary) {
        TwinVolume x = new TwinVolume();
        x.promote(primary);
        return x;
    }

    /** Linked, node 0 is PRIMARY and SOURCE with some blocks in its MAP. */
    static TwinVolume source(int... blocks) {
        return sourceAt(0, blocks);
    }

    /** Linked, the node is PRIMARY and SOURCE with some blocks in its MAP. */
    static TwinVolume sourceAt(int node, int... blocks) {
        TwinVolume x = alone(node);
        for (int block : blocks) {
            x.write(node, block, 100 + block);
        }
        x.connect();
        return x;
    }

    /** Linked, with PENDING writes of one PRIMARY to these blocks, whose DATA is on the way. */
    static TwinVolume pending(int primary, int... blocks) {
        TwinVolume x = linked(primary);
        for (int block : blocks) {
            x.write(primary, block, 100 + block);
        }
        return x;
    }

    /** As pending(..), and the writes wait at the peer. */
    static TwinVolume waiting(int primary, int... blocks) {
        TwinVolume x = pending(primary, blocks);
        deliverAll(x, primary);
        return x;
    }

    /** Linked, with 8 PENDING writes in the extents 0, 1 and 2. */
    static TwinVolume eightPending(int primary) {
        return pending(primary, 0, 4, 8, 1, 5, 9, 2, 6);
    }

    /** Not linked; both nodes are PRIMARY and made so many writes in turn, in the extents 0, 1 and 2. */
    static TwinVolume manyAlone(int count) {
        TwinVolume x = alone(0);
        x.promote(1);
        for (int k = 1; k <= count; k++) {
            x.write(k % 2, k % 12, k);
        }
        return x;
    }

    /** A write of one node that is on its disk alone, and a PRIMARY peer that made none. */
    static TwinVolume backward(int ahead) {
        TwinVolume x = alone(ahead);
        x.write(ahead, 2, 3);
        x.demote(ahead);
        x.promote(1 - ahead);
        return x;
    }

    /** Not linked; a link that broke in the middle of an update has left one node TORN. */
    static TwinVolume torn(int node) {
        TwinVolume x = alone(1 - node);
        x.write(1 - node, 2, 3);
        x.connect();
        x.cut();
        return x;
    }

    /** The update is done at node 0, and FINISH is on the way to node 1. */
    static TwinVolume finishing() {
        return finishingAt(0);
    }

    /** The update is done at the node, and FINISH is on the way to its peer. */
    static TwinVolume finishingAt(int node) {
        TwinVolume x = sourceAt(node, 3);
        x.copy(node);
        x.deliver(node);
        x.deliver(1 - node);
        return x;
    }

    /** Both disks went different ways; both nodes are secondary. */
    static TwinVolume split() {
        TwinVolume x = new TwinVolume();
        for (int node = 0; node < 2; node++) {
            x.promote(node);
            x.write(node, node, 7);
            x.demote(node);
        }
        return x;
    }

    /** Node 0 went down as PRIMARY and came up again; nothing was ever written. */
    static TwinVolume crashed() {
        TwinVolume x = alone(0);
        x.crash(0);
        x.restart(0);
        return x;
    }

    /** Both nodes went down as PRIMARY and came up again; nothing was ever written. */
    static TwinVolume bothCrashed() {
        TwinVolume x = crashed();
        x.promote(1);
        x.crash(1);
        x.restart(1);
        return x;
    }

    /** Lets all that is on the way from a node arrive. */
    static void deliverAll(TwinVolume x, int from) {
        for (int k = 0; k < 32 && x.deliver(from) != 0; k++) {
            continue;
        }
    }

    /** Lets all that is on the way or waits at either node come to its end. */
    static void settle(TwinVolume x) {
        boolean moved = true;
        for (int round = 0; moved && round < 1000; round++) {
            moved = x.deliver(0) != 0 | x.deliver(1) != 0 | x.store(0, 0) != 0 | x.store(1, 0) != 0;
        }
    }

    /** Copies all that there is to copy, four blocks at a time as an object has 512 calls alone. */
    static void update(TwinVolume x) {
        boolean moved = true;
        for (int round = 0; moved && round < 1000; round++) {
            moved = x.copy(0) >= 0 | x.copy(1) >= 0;
            for (int k = 1; moved && k < 4; k++) {
                x.copy(0);
                x.copy(1);
            }
            settle(x);
        }
    }

    /** All that the reading calls tell, fates of the first ten writes alone. */
    static String all(TwinVolume x) {
        StringBuilder seen = new StringBuilder();
        for (int node = 0; node < 2; node++) {
            seen.append("state ").append(x.state(node));
            seen.append(" generation ").append(Long.toHexString(x.generation(node)));
            seen.append(" map ").append(Integer.toHexString(x.map(node)));
            seen.append(" log ").append(log(x, node));
            seen.append(" traffic ").append(x.traffic(node)).append(" disk");
            for (int block = 0; block < 32; block++) {
                seen.append(' ').append(x.disk(node, block));
            }
            seen.append("; ");
        }
        seen.append("fates");
        for (int write = 1; write <= FATES_SEEN; write++) {
            seen.append(' ').append(x.fate(write));
        }
        return seen.toString();
    }

    static String log(TwinVolume x, int node) {
        return x.log(node, 0) + "," + x.log(node, 1) + "," + x.log(node, 2);
    }

    static int blocks(int... blocks) {
        int set = 0;
        for (int block : blocks) {
            set |= 1 << block;
        }
        return set;
    }
}
