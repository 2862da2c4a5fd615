/** Promise 8: cut, and what a break of the link does. */
public final class Promise08CutTest {
    private static final Check check = new Check("promise 8");

    public static void main(String[] args) {
        notLinked();
        idleLink();
        messagesAreGone();
        noWriteWaits();
        pendingWritesEndUpAlone();
        pendingWritesWhereBaseIsNotZero();
        noPendingWriteNoFreshNumber();
        updateIsBroken();
        primaryStays();
        check.end();
    }

    private static void notLinked() {
        Twins.denied(check, "cut of a new object", TwinVolume::new, x -> x.cut());
        Twins.denied(check, "cut of a node alone", () -> Scene.backward(0), x -> x.cut());
        Twins.denied(check, "cut of a TORN node", () -> Scene.torn(1), x -> x.cut());
        Twins.denied(check, "cut after a crash", Promise08CutTest::crashedLink, x -> x.cut());
        TwinVolume x = Scene.linked(0);
        check.due("cut", x.cut(), true);
        check.due("cut again", x.cut(), false);
    }

    private static TwinVolume crashedLink() {
        TwinVolume x = Scene.pending(0, 1);
        x.crash(1);
        return x;
    }

    private static void idleLink() {
        for (int node : Scene.NODES) {
            TwinVolume x = Scene.linked(node);
            check.due("cut", x.cut(), true);
            check.due("state", x.state(node), 3);
            check.due("state of the peer", x.state(1 - node), 1);
            check.due("connect", x.connect(), 0);
        }
    }

    private static void messagesAreGone() {
        TwinVolume x = Scene.waiting(1, 0, 1);
        x.store(0, 0);
        x.write(1, 2, 1);
        check.due("traffic before", x.traffic(0) + x.traffic(1), 102);
        x.cut();
        for (int node : Scene.NODES) {
            check.due("traffic", x.traffic(node), 0);
            check.due("deliver", x.deliver(node), 0);
        }
        x.connect();
        for (int node : Scene.NODES) {
            check.due("traffic on the next link", x.traffic(node), 0);
            check.due("deliver on the next link", x.deliver(node), 0);
        }
        check.due("what was stored stays", x.disk(0, 0), 100);
        check.due("what was not stored is not there", x.disk(0, 1), 0);
    }

    private static void noWriteWaits() {
        for (int node : Scene.NODES) {
            TwinVolume x = Scene.waiting(node, 0, 1, 2, 3, 4, 5, 6, 7);
            x.cut();
            check.due("store", x.store(1 - node, 0), 0);
            check.due("traffic", x.traffic(1 - node), 0);
            x.connect();
            x.write(node, 9, 5);
            x.deliver(node);
            check.due("a new write waits alone", x.store(1 - node, 0), 9);
        }
    }

    private static void pendingWritesEndUpAlone() {
        for (int node : Scene.NODES) {
            TwinVolume x = Scene.pending(node, 0, 4, 5, 31);
            for (int k = 0; k < 3; k++) {
                x.deliver(node);
            }
            x.store(1 - node, 0);
            x.store(1 - node, 0);
            x.deliver(1 - node);
            check.due("cut", x.cut(), true);
            check.due("an acknowledged one stays", x.fate(1), 2);
            check.due("its ACK was on the way", x.fate(2), 3);
            check.due("it waited", x.fate(3), 3);
            check.due("it was on the way", x.fate(4), 3);
            check.due("map", x.map(node), Scene.blocks(4, 5, 31));
            check.due("map of the peer", x.map(1 - node), 0);
            check.due("one fresh number", x.generation(node), Scene.generation(2, 1));
            check.due("generation of the peer", x.generation(1 - node), Scene.generation(1, 0));
            check.due("connect", x.connect(), 1 + node);
        }
    }

    private static void pendingWritesWhereBaseIsNotZero() {
        for (int node : Scene.NODES) {
            TwinVolume x = Scene.sourceAt(node, 3);
            x.write(node, 20, 1);
            x.cut();
            check.due("fate", x.fate(2), 3);
            check.due("map", x.map(node), Scene.blocks(3, 20));
            check.due("no second fresh number", x.generation(node), Scene.generation(2, 1));
        }
    }

    private static void noPendingWriteNoFreshNumber() {
        TwinVolume x = Scene.pending(0, 0, 1);
        Scene.settle(x);
        x.cut();
        check.due("generation", x.generation(0), Scene.generation(1, 0));
        check.due("map", x.map(0), 0);
        check.due("fate", x.fate(2), 2);
        check.due("connect", x.connect(), 0);
    }

    private static void updateIsBroken() {
        for (int node : Scene.NODES) {
            TwinVolume x = Scene.sourceAt(node, 3, 9);
            x.copy(node);
            x.copy(node);
            x.deliver(node);
            check.due("cut", x.cut(), true);
            check.due("not SOURCE", x.state(node), 3);
            check.due("not TARGET, TORN stays", x.state(1 - node), 5);
            check.due("nothing is under way", x.traffic(node), 0);
            check.due("the MAP stays", x.map(node), Scene.blocks(3, 9));
            check.due("generation stays", x.generation(node), Scene.generation(2, 1));
            check.due("fate stays", x.fate(1), 3);
            check.due("connect", x.connect(), 1 + node);
            check.due("copy begins anew", x.copy(node), 3);
            Scene.update(x);
            check.due("state", x.state(1 - node), 17);
            check.due("fate", x.fate(1), 2);
        }
    }

    private static void primaryStays() {
        TwinVolume x = Scene.linked(1);
        x.cut();
        check.due("a write of the PRIMARY", x.write(1, 0, 1), 1);
        check.due("CRASHED is not for a break", x.state(1), 3);
    }
}
