/** Promise 5: store. */
public final class Promise05StoreTest {
    private static final Check check = new Check("promise 5");

    public static void main(String[] args) {
        nothing();
        anyOfTheEarliestEpoch();
        epochWithNoWritesWaiting();
        eightWait();
        sameBlockInOrder();
        check.end();
    }

    private static void nothing() {
        TwinVolume x = Scene.linked(0);
        x.write(0, 0, 1);
        check.due("nothing has arrived", x.store(1, 0), 0);
        x.deliver(0);
        String before = Scene.all(x);
        for (int node : Scene.NO_NODES) {
            check.due("store at no node", x.store(node, 0), 0);
        }
        check.due("store at the writer", x.store(0, 0), 0);
        check.due("k before the first", x.store(1, -1), 0);
        check.due("k before the first", x.store(1, Integer.MIN_VALUE), 0);
        check.due("k behind the last", x.store(1, 1), 0);
        check.due("k behind the last", x.store(1, Integer.MAX_VALUE), 0);
        check.due("after nothing", Scene.all(x), before);
        check.due("store", x.store(1, 0), 1);
        check.due("no write waits twice", x.store(1, 0), 0);
    }

    private static void anyOfTheEarliestEpoch() {
        TwinVolume x = Scene.linked(1);
        for (int block = 0; block < 4; block++) {
            x.write(1, block, 10 + block);
            x.deliver(1);
        }
        check.due("traffic", x.traffic(0), 400);
        check.due("store", x.store(0, 1), 2);
        check.due("disk", x.disk(0, 1), 11);
        check.due("traffic with the ACK", x.traffic(0), 301);
        check.due("store", x.store(0, 2), 4);
        check.due("store", x.store(0, 0), 1);
        check.due("store", x.store(0, 0), 3);
        check.due("traffic", x.traffic(0), 4);
        check.due("fate", x.fate(2), 1);
        x.deliver(0);
        check.due("ACKs go in the order of stores", x.fate(2), 2);
        check.due("ACKs go in the order of stores", x.fate(1), 1);
        x.deliver(0);
        check.due("ACKs go in the order of stores", x.fate(4), 2);
        check.due("the writer's log alone", Scene.log(x, 0), "-1,-1,-1");
    }

    private static void epochWithNoWritesWaiting() {
        TwinVolume x = Scene.linked(0);
        x.write(0, 0, 1);
        x.write(0, 1, 1);
        x.barrier(0);
        x.write(0, 2, 1);
        x.deliver(0);
        check.due("store", x.store(1, 0), 1);
        x.deliver(0);
        x.deliver(0);
        check.due("write 2 is of the earlier epoch", x.store(1, 1), 0);
        check.due("store", x.store(1, 0), 2);
        check.due("store", x.store(1, 0), 3);
    }

    private static void eightWait() {
        TwinVolume x = Scene.linked(0);
        for (int block = 0; block < 8; block++) {
            x.write(0, block, 1);
            x.deliver(0);
        }
        check.due("traffic", x.traffic(1), 800);
        check.due("no ninth", x.store(1, 8), 0);
        check.due("the last", x.store(1, 7), 8);
        check.due("the first", x.store(1, 0), 1);
        check.due("the last", x.store(1, 5), 7);
        check.due("traffic", x.traffic(1), 503);
    }

    private static void sameBlockInOrder() {
        TwinVolume x = Scene.linked(0);
        x.write(0, 0, 1);
        x.write(0, 0, 2);
        Scene.settle(x);
        check.due("disk", x.disk(1, 0), 2);
        x.write(0, 0, 3);
        x.deliver(0);
        x.cut();
        check.due("no write waits after a break", x.store(1, 0), 0);
        check.due("disk", x.disk(1, 0), 2);
    }
}
