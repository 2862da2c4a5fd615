/** Promise 2: write. */
public final class Promise02WriteTest {
    private static final Check check = new Check("promise 2");

    public static void main(String[] args) {
        badArguments();
        downBeforeSecondary();
        secondary();
        linkedWrite();
        aloneWrites();
        numbersGoOverBothNodes();
        logOrder();
        logKeepsPendingExtents();
        busy();
        fullOfPending();
        fullOfWrites();
        check.end();
    }

    private static void badArguments() {
        TwinVolume x = Scene.linked(0);
        String before = Scene.all(x);
        for (int node : Scene.NO_NODES) {
            check.due("write at no node", x.write(node, 0, 1), TwinVolume.BAD);
        }
        for (int block : Scene.NO_BLOCKS) {
            check.due("write to no block", x.write(0, block, 1), TwinVolume.BAD);
            check.due("write to no block at a secondary", x.write(1, block, 1), TwinVolume.BAD);
        }
        check.due("after BAD writes", Scene.all(x), before);
        x.crash(0);
        check.due("BAD is looked at before DOWN", x.write(0, 32, 1), TwinVolume.BAD);
    }

    private static void downBeforeSecondary() {
        TwinVolume x = Scene.alone(0);
        x.crash(0);
        String before = Scene.all(x);
        check.due("write at a node that is down", x.write(0, 0, 1), TwinVolume.DOWN);
        check.due("after a DOWN write", Scene.all(x), before);
    }

    private static void secondary() {
        TwinVolume x = Scene.linked(0);
        String before = Scene.all(x);
        check.due("write at a secondary", x.write(1, 0, 1), TwinVolume.SECONDARY);
        check.due("after a SECONDARY write", Scene.all(x), before);
    }

    private static void linkedWrite() {
        for (int node = 0; node < 2; node++) {
            TwinVolume x = Scene.linked(node);
            check.due("write", x.write(node, 31, -9), 1);
            check.due("own disk", x.disk(node, 31), -9);
            check.due("peer's disk", x.disk(1 - node, 31), 0);
            check.due("fate", x.fate(1), 1);
            check.due("traffic", x.traffic(node), 1);
            check.due("traffic of the peer", x.traffic(1 - node), 0);
            check.due("map", x.map(node), 0);
            check.due("generation", x.generation(node), Scene.generation(1, 0));
            check.due("log", Scene.log(x, node), "7,-1,-1");
            check.due("log of the peer", Scene.log(x, 1 - node), "-1,-1,-1");
        }
    }

    private static void aloneWrites() {
        TwinVolume x = Scene.alone(1);
        check.due("write", x.write(1, 0, 5), 1);
        check.due("fate", x.fate(1), 3);
        check.due("map", x.map(1), Scene.blocks(0));
        check.due("generation", x.generation(1), Scene.generation(2, 1));
        check.due("traffic", x.traffic(1), 0);
        check.due("write", x.write(1, 31, 6), 2);
        check.due("map", x.map(1), Scene.blocks(0, 31));
        check.due("generation stays", x.generation(1), Scene.generation(2, 1));
        check.due("peer's generation", x.generation(0), Scene.generation(1, 0));
        check.due("peer's map", x.map(0), 0);
    }

    private static void numbersGoOverBothNodes() {
        TwinVolume x = Scene.alone(0);
        x.promote(1);
        check.due("write", x.write(0, 0, 1), 1);
        check.due("write", x.write(1, 0, 2), 2);
        check.due("refused write", x.write(1, 32, 2), TwinVolume.BAD);
        check.due("write", x.write(0, 0, 3), 3);
        check.due("disk", x.disk(0, 0), 3);
        check.due("disk", x.disk(1, 0), 2);
        check.due("generation", x.generation(0), Scene.generation(2, 1));
        check.due("a later fresh number", x.generation(1), Scene.generation(3, 1));
    }

    private static void logOrder() {
        TwinVolume x = Scene.alone(0);
        x.write(0, 0, 1);
        x.write(0, 7, 1);
        x.write(0, 8, 1);
        check.due("log", Scene.log(x, 0), "2,1,0");
        x.write(0, 4, 1);
        check.due("an extent from the middle", Scene.log(x, 0), "1,2,0");
        x.write(0, 3, 1);
        check.due("an extent from the end", Scene.log(x, 0), "0,1,2");
        x.write(0, 2, 1);
        check.due("an extent from the front", Scene.log(x, 0), "0,1,2");
        x.write(0, 12, 1);
        check.due("the last one goes", Scene.log(x, 0), "3,0,1");
    }

    private static void logKeepsPendingExtents() {
        TwinVolume x = Scene.linked(0);
        x.write(0, 0, 1);
        x.write(0, 4, 1);
        x.write(0, 8, 1);
        for (int k = 0; k < 3; k++) {
            x.deliver(0);
        }
        x.store(1, 2);
        x.deliver(1);
        check.due("write to a fourth extent", x.write(0, 12, 1), 4);
        check.due("the front was the one without PENDING", Scene.log(x, 0), "3,1,0");
        x.store(1, 0);
        x.store(1, 0);
        x.deliver(1);
        x.deliver(1);
        x.write(0, 16, 1);
        check.due("of two without PENDING the last goes", Scene.log(x, 0), "4,3,1");
    }

    private static void busy() {
        TwinVolume x = Scene.linked(0);
        x.write(0, 0, 1);
        x.write(0, 4, 1);
        x.write(0, 8, 1);
        String before = Scene.all(x);
        check.due("write to a fourth extent", x.write(0, 12, 1), TwinVolume.BUSY);
        check.due("after a BUSY write", Scene.all(x), before);
        check.due("write to an extent of the LOG", x.write(0, 1, 1), 4);
        x.deliver(0);
        x.store(1, 0);
        x.deliver(1);
        check.due("extent 0 has another PENDING write", x.write(0, 12, 1), TwinVolume.BUSY);
        x.cut();
        check.due("none is PENDING after a break", x.write(0, 12, 1), 5);
        check.due("log", Scene.log(x, 0), "3,0,2");
    }

    private static void fullOfPending() {
        TwinVolume x = Scene.linked(1);
        for (int k = 1; k <= 8; k++) {
            check.due("write " + k, x.write(1, k % 3 * 4, k), k);
        }
        String before = Scene.all(x);
        check.due("a ninth PENDING write", x.write(1, 0, 9), TwinVolume.FULL);
        check.due("FULL is looked at before BUSY", x.write(1, 31, 9), TwinVolume.FULL);
        check.due("after a FULL write", Scene.all(x), before);
        x.deliver(1);
        x.store(0, 0);
        check.due("till the ACK has arrived", x.write(1, 0, 9), TwinVolume.FULL);
        x.deliver(0);
        check.due("with seven PENDING", x.write(1, 0, 9), 9);
    }

    private static void fullOfWrites() {
        TwinVolume x = Scene.alone(0);
        x.promote(1);
        for (int k = 1; k <= 300; k++) {
            check.due("write " + k, x.write(k % 2, k % 32, k), k);
        }
        check.due("write 301", x.write(0, 0, 1), TwinVolume.FULL);
        check.due("write 301", x.write(1, 0, 1), TwinVolume.FULL);
        check.due("fate(300)", x.fate(300), 3);
        check.due("fate(301)", x.fate(301), 0);
        check.due("disk", x.disk(0, 300 % 32), 300);
        x.demote(0);
        check.due("SECONDARY is looked at before FULL", x.write(0, 0, 1), TwinVolume.SECONDARY);
    }
}
