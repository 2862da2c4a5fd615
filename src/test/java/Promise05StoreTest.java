/** Promise 5: store. */
public final class Promise05StoreTest {
    private static final Check check = new Check("promise 5");

    public static void main(String[] args) {
        badNode();
        noneWaits();
        noSuchPlace();
        noPlaceInALaterEpoch();
        goneAfterABreak();
        eachPlace();
        inTheOrderOfArrival();
        whatItDoes();
        leastAndGreatestBlockAndValue();
        ackOrder();
        earlierEpochThatIsOnTheWay();
        laterEpochNeedsNoAck();
        check.end();
    }

    private static TwinVolume twoEpochs(int writer) {
        TwinVolume x = Scene.pending(writer, 0, 1);
        x.barrier(writer);
        x.write(writer, 2, 7);
        x.write(writer, 3, 8);
        Scene.deliverAll(x, writer);
        return x;
    }

    private static void badNode() {
        for (int node : Scene.NO_NODES) {
            Twins.refused(check, "store at node " + node, () -> Scene.waiting(0, 0), x -> x.store(node, 0), 0);
            Twins.refused(check, "store at node " + node, () -> Scene.waiting(1, 0), x -> x.store(node, 0), 0);
        }
    }

    private static void noneWaits() {
        for (int node : Scene.NODES) {
            Twins.refused(check, "store on a new object", TwinVolume::new, x -> x.store(node, 0), 0);
            Twins.refused(check, "store of what is on the way", () -> Scene.pending(1 - node, 0), x -> x.store(node, 0),
                    0);
            Twins.refused(check, "store at the writer", () -> Scene.waiting(node, 0), x -> x.store(node, 0), 0);
            TwinVolume x = Scene.waiting(1 - node, 0);
            check.due("store", x.store(node, 0), 1);
            check.due("no write waits twice", x.store(node, 0), 0);
        }
    }

    private static void noSuchPlace() {
        int[] places = {-1, 2, 3, Integer.MIN_VALUE, Integer.MAX_VALUE};
        for (int k : places) {
            Twins.refused(check, "store of place " + k, () -> Scene.waiting(0, 0, 31), x -> x.store(1, k), 0);
            Twins.refused(check, "store of place " + k, () -> Scene.waiting(1, 0, 31), x -> x.store(0, k), 0);
        }
        int[] beyondEight = {-1, 8, 9, 100, Integer.MIN_VALUE, Integer.MAX_VALUE};
        for (int k : beyondEight) {
            Twins.refused(check, "store of place " + k, () -> Scene.waiting(0, 0, 1, 2, 3, 4, 5, 6, 7),
                    x -> x.store(1, k), 0);
        }
    }

    private static void noPlaceInALaterEpoch() {
        for (int k : new int[] {-1, 2, 3, 4}) {
            Twins.refused(check, "store of place " + k, () -> twoEpochs(0), x -> x.store(1, k), 0);
            Twins.refused(check, "store of place " + k, () -> twoEpochs(1), x -> x.store(0, k), 0);
        }
        Twins.refused(check, "a later write to the same block", () -> Scene.waiting(0, 5, 5), x -> x.store(1, 1), 0);
    }

    private static TwinVolume broken(int fallen) {
        TwinVolume x = Scene.waiting(0, 0, 1);
        if (!x.crash(fallen)) {
            x.cut();
        }
        return x;
    }

    private static void goneAfterABreak() {
        for (int fallen : new int[] {-1, 0, 1}) {
            Twins.refused(check, "store after a break", () -> broken(fallen), x -> x.store(1, 0), 0);
        }
        TwinVolume again = broken(-1);
        again.connect();
        check.due("store on the next link", again.store(1, 0), 0);
        check.due("disk", again.disk(1, 0), 0);
    }

    private static void eachPlace() {
        for (int k = 0; k < 8; k++) {
            TwinVolume x = Scene.waiting(0, 0, 1, 2, 3, 4, 5, 6, 7);
            check.due("store of place " + k, x.store(1, k), k + 1);
            check.due("its block", x.disk(1, k), 100 + k);
            check.due("no other block", x.disk(1, 7 - k), 0);
            check.due("traffic", x.traffic(1), 701);
        }
    }

    private static void inTheOrderOfArrival() {
        TwinVolume x = Scene.waiting(1, 0, 1, 2, 3);
        check.due("store", x.store(0, 1), 2);
        check.due("store", x.store(0, 2), 4);
        check.due("store", x.store(0, 0), 1);
        x.write(1, 4, 1);
        x.deliver(1);
        check.due("the newest is the last", x.store(0, 1), 5);
        check.due("store", x.store(0, 0), 3);
        check.due("no more", x.store(0, 0), 0);
    }

    private static void whatItDoes() {
        for (int writer : Scene.NODES) {
            TwinVolume x = Scene.waiting(writer, 0, 9);
            check.due("store", x.store(1 - writer, 1), 2);
            check.due("disk", x.disk(1 - writer, 9), 109);
            check.due("one waits, ACK is on the way", x.traffic(1 - writer), 101);
            check.due("nothing from the writer", x.traffic(writer), 0);
            check.due("PENDING still", x.fate(2), 1);
            check.due("the writer's LOG alone", Scene.log(x, 1 - writer), "-1,-1,-1");
            check.due("no MAP", x.map(1 - writer), 0);
        }
    }

    private static void leastAndGreatestBlockAndValue() {
        for (int node : Scene.NODES) {
            TwinVolume x = Scene.linked(node);
            x.write(node, 0, Integer.MIN_VALUE);
            x.write(node, 31, Integer.MAX_VALUE);
            x.write(node, 0, 0);
            Scene.deliverAll(x, node);
            check.due("store", x.store(1 - node, 0), 1);
            check.due("disk", x.disk(1 - node, 0), Integer.MIN_VALUE);
            check.due("store", x.store(1 - node, 0), 2);
            check.due("disk", x.disk(1 - node, 31), Integer.MAX_VALUE);
            check.due("store", x.store(1 - node, 0), 3);
            check.due("the value of its own write", x.disk(1 - node, 0), 0);
        }
    }

    private static void ackOrder() {
        for (int node : Scene.NODES) {
            TwinVolume x = Scene.waiting(node, 0, 1, 2);
            x.store(1 - node, 2);
            x.store(1 - node, 0);
            x.deliver(1 - node);
            check.due("ACKs go in the order of stores", x.fate(3), 2);
            check.due("ACKs go in the order of stores", x.fate(1), 1);
            x.deliver(1 - node);
            check.due("ACKs go in the order of stores", x.fate(1), 2);
            check.due("no ACK without a store", x.fate(2), 1);
        }
    }

    private static void earlierEpochThatIsOnTheWay() {
        for (int node : Scene.NODES) {
            TwinVolume x = Scene.pending(node, 0, 1);
            x.barrier(node);
            x.write(node, 2, 1);
            x.deliver(node);
            check.due("store", x.store(1 - node, 0), 1);
            x.deliver(node);
            x.deliver(node);
            check.due("write 2 is of the earlier epoch", x.store(1 - node, 1), 0);
            check.due("store", x.store(1 - node, 0), 2);
            check.due("store", x.store(1 - node, 0), 3);
        }
    }

    private static void laterEpochNeedsNoAck() {
        TwinVolume x = twoEpochs(0);
        x.store(1, 0);
        x.store(1, 0);
        check.due("both ACKs are on the way", x.traffic(1), 202);
        check.due("the later epoch is the earliest that waits", x.store(1, 1), 4);
        check.due("the later epoch is the earliest that waits", x.store(1, 0), 3);
    }
}
