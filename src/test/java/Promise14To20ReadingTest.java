/** Promises 14 to 20: disk, fate, state, generation, map, log and traffic. */
public final class Promise14To20ReadingTest {
    private static final Check check = new Check("promises 14 to 20");

    public static void main(String[] args) {
        badNodes();
        disk();
        fate();
        state();
        generation();
        map();
        log();
        traffic();
        readingChangesNothing();
        check.end();
    }

    private static void badNodes() {
        TwinVolume x = busyObject();
        for (int node : Scene.NO_NODES) {
            check.due("disk", x.disk(node, 3), 0);
            check.due("state", x.state(node), TwinVolume.BAD);
            check.due("generation", x.generation(node), 0);
            check.due("map", x.map(node), 0);
            check.due("log", x.log(node, 0), -1);
            check.due("traffic", x.traffic(node), 0);
        }
    }

    /** Every reading call has something to tell of both nodes. */
    private static TwinVolume busyObject() {
        TwinVolume x = Scene.source(3, 9);
        x.copy(0);
        x.deliver(0);
        x.copy(0);
        x.write(0, 20, 4);
        x.deliver(0);
        x.deliver(0);
        return x;
    }

    private static void disk() {
        TwinVolume x = Scene.alone(0);
        x.write(0, 0, Integer.MIN_VALUE);
        x.write(0, 31, Integer.MAX_VALUE);
        for (int block : Scene.NO_BLOCKS) {
            check.due("disk of no block", x.disk(0, block), 0);
        }
        check.due("disk", x.disk(0, 0), Integer.MIN_VALUE);
        check.due("disk", x.disk(0, 31), Integer.MAX_VALUE);
        x.crash(0);
        check.due("disk of a node that is down", x.disk(0, 31), Integer.MAX_VALUE);
    }

    private static void fate() {
        TwinVolume x = Scene.linked(0);
        x.write(0, 0, 1);
        check.due("PENDING", x.fate(1), 1);
        Scene.settle(x);
        check.due("ACKNOWLEDGED", x.fate(1), 2);
        x.cut();
        x.write(0, 1, 1);
        check.due("ALONE", x.fate(2), 3);
        x.crash(0);
        check.due("LOST", x.fate(2), 4);
        int[] none = {0, -1, 3, 301, Integer.MIN_VALUE, Integer.MAX_VALUE};
        for (int write : none) {
            check.due("fate of no write", x.fate(write), 0);
        }
    }

    private static void state() {
        TwinVolume x = Scene.linked(0);
        check.due("up, PRIMARY, linked", x.state(0), 1 + 2 + 16);
        check.due("up, linked", x.state(1), 1 + 16);
        x.write(0, 9, 1);
        x.crash(0);
        check.due("CRASHED", x.state(0), 8);
        x.restart(0);
        check.due("up, CRASHED", x.state(0), 1 + 8);
        x.connect();
        check.due("up, CRASHED, linked, SOURCE", x.state(0), 1 + 8 + 16 + 32);
        check.due("up, TORN, linked, TARGET", x.state(1), 1 + 4 + 16 + 64);
        x.crash(1);
        check.due("TORN", x.state(1), 4);
    }

    private static void generation() {
        TwinVolume x = Scene.alone(0);
        x.write(0, 0, 1);
        check.due("generation", x.generation(0), 8589934593L);
        x.promote(1);
        x.write(1, 0, 1);
        check.due("generation", x.generation(1), 12884901889L);
        x.demote(0);
        x.discard(0);
        check.due("generation", x.generation(0), 0L);
    }

    private static void map() {
        TwinVolume x = Scene.alone(1);
        for (int block = 0; block < 32; block++) {
            x.write(1, block, 1);
            check.due("map", x.map(1), (int) ((2L << block) - 1));
        }
        check.due("map of the peer", x.map(0), 0);
    }

    private static void log() {
        TwinVolume x = Scene.alone(0);
        x.write(0, 31, 1);
        x.write(0, 0, 1);
        check.due("log", x.log(0, 0), 0);
        check.due("log", x.log(0, 1), 7);
        int[] none = {2, 3, -1, Integer.MIN_VALUE, Integer.MAX_VALUE};
        for (int k : none) {
            check.due("log of no place", x.log(0, k), -1);
        }
        x.write(0, 4, 1);
        check.due("log", x.log(0, 2), 7);
        check.due("log of a fourth place", x.log(0, 3), -1);
    }

    private static void traffic() {
        TwinVolume x = busyObject();
        check.due("traffic of the SOURCE", x.traffic(0), 20000);
        check.due("traffic of the TARGET", x.traffic(1), 102);
        x.deliver(1);
        check.due("traffic of the SOURCE", x.traffic(0), 10000);
        check.due("traffic of the TARGET", x.traffic(1), 101);
        x.write(0, 21, 4);
        check.due("traffic of the SOURCE", x.traffic(0), 10001);
    }

    private static void readingChangesNothing() {
        TwinVolume x = busyObject();
        check.due("read twice", Scene.all(x), Scene.all(x));
    }
}
