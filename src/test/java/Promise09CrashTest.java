/** Promise 9: crash. */
public final class Promise09CrashTest {
    private static final Check check = new Check("promise 9");

    public static void main(String[] args) {
        badNode();
        notUp();
        secondary();
        primaryAlone();
        linkedPrimary();
        linkedPeer();
        whatIsKept();
        demotedWithAloneWrites();
        crashedStays();
        source();
        secondarySource();
        target();
        bothGoDown();
        check.end();
    }

    private static void badNode() {
        for (int node : Scene.NO_NODES) {
            Twins.denied(check, "crash of node " + node, () -> Scene.pending(0, 3), x -> x.crash(node));
            Twins.denied(check, "crash of node " + node + ", alone", () -> Scene.backward(1), x -> x.crash(node));
        }
    }

    private static TwinVolume down(int node) {
        TwinVolume x = Scene.alone(node);
        x.write(node, 9, 1);
        x.promote(1 - node);
        x.write(1 - node, 9, 1);
        x.crash(node);
        return x;
    }

    private static void notUp() {
        for (int node : Scene.NODES) {
            Twins.denied(check, "crash of a node that is down", () -> down(node), x -> x.crash(node));
        }
    }

    private static void secondary() {
        for (int node : Scene.NODES) {
            TwinVolume x = new TwinVolume();
            check.due("crash", x.crash(node), true);
            check.due("no mark", x.state(node), 0);
            check.due("the peer", x.state(1 - node), 1);
        }
    }

    private static void primaryAlone() {
        for (int node : Scene.NODES) {
            TwinVolume x = down(node);
            check.due("CRASHED, PRIMARY no longer", x.state(node), 8);
            check.due("its ALONE write", x.fate(1), 4);
            check.due("the peer's ALONE write", x.fate(2), 3);
            check.due("the peer", x.state(1 - node), 3);
        }
    }

    private static void linkedPrimary() {
        for (int node : Scene.NODES) {
            TwinVolume x = Scene.pending(node, 0);
            Scene.settle(x);
            x.write(node, 1, 2);
            x.write(node, 2, 2);
            x.deliver(node);
            x.store(1 - node, 0);
            check.due("crash", x.crash(node), true);
            check.due("an acknowledged write stays", x.fate(1), 2);
            check.due("a PENDING write whose ACK was on the way is LOST", x.fate(2), 4);
            check.due("a PENDING write is LOST", x.fate(3), 4);
            check.due("it does not end up alone", x.map(node), 0);
            check.due("no fresh number", x.generation(node), Scene.generation(1, 0));
            check.due("CRASHED", x.state(node), 8);
            check.due("the peer is not linked", x.state(1 - node), 1);
            check.due("traffic", x.traffic(node) + x.traffic(1 - node), 0);
            check.due("cut", x.cut(), false);
            check.due("what the peer stored stays", x.disk(1 - node, 1), 2);
        }
    }

    private static void linkedPeer() {
        for (int node : Scene.NODES) {
            TwinVolume x = Scene.waiting(node, 9);
            check.due("crash", x.crash(1 - node), true);
            check.due("no mark", x.state(1 - node), 0);
            check.due("PRIMARY stays", x.state(node), 3);
            check.due("the write ends up alone", x.fate(1), 3);
            check.due("map", x.map(node), Scene.blocks(9));
            check.due("generation", x.generation(node), Scene.generation(2, 1));
            check.due("nothing waits", x.traffic(1 - node), 0);
        }
    }

    private static void whatIsKept() {
        for (int node : Scene.NODES) {
            TwinVolume x = Scene.alone(node);
            x.write(node, 9, 5);
            x.write(node, 31, Integer.MIN_VALUE);
            x.crash(node);
            check.due("disk", x.disk(node, 9), 5);
            check.due("disk", x.disk(node, 31), Integer.MIN_VALUE);
            check.due("map", x.map(node), Scene.blocks(9, 31));
            check.due("log", Scene.log(x, node), "7,2,-1");
            check.due("generation", x.generation(node), Scene.generation(2, 1));
        }
    }

    private static void demotedWithAloneWrites() {
        for (int node : Scene.NODES) {
            TwinVolume x = Scene.alone(node);
            x.write(node, 9, 1);
            x.demote(node);
            x.crash(node);
            check.due("an ALONE write of a secondary is LOST", x.fate(1), 4);
            check.due("no CRASHED mark for a secondary", x.state(node), 0);
            check.due("map stays", x.map(node), Scene.blocks(9));
            x.restart(node);
            check.due("connect", x.connect(), 1 + node);
            Scene.update(x);
            check.due("LOST though the peer has it now", x.fate(1), 4);
            check.due("disk", x.disk(1 - node, 9), 1);
        }
    }

    private static void crashedStays() {
        TwinVolume x = Scene.crashed();
        x.crash(0);
        check.due("CRASHED stays when a secondary goes down", x.state(0), 8);
    }

    private static void source() {
        for (int node : Scene.NODES) {
            TwinVolume x = Scene.sourceAt(node, 3, 4);
            x.copy(node);
            x.write(node, 20, 1);
            x.crash(node);
            check.due("CRASHED, not SOURCE", x.state(node), 8);
            check.due("TORN, not TARGET", x.state(1 - node), 5);
            check.due("its ALONE write", x.fate(1), 4);
            check.due("its PENDING write", x.fate(3), 4);
            check.due("map", x.map(node), Scene.blocks(3, 4));
            check.due("nothing is under way", x.traffic(node), 0);
            x.restart(node);
            x.connect();
            Scene.update(x);
            check.due("a LOST write stays so at END", x.fate(1), 4);
            check.due("state", x.state(1 - node), 17);
        }
    }

    private static void secondarySource() {
        for (int node : Scene.NODES) {
            TwinVolume x = Scene.sourceAt(node, 3);
            x.demote(node);
            x.crash(node);
            check.due("not CRASHED, not SOURCE", x.state(node), 0);
            check.due("TORN, not TARGET", x.state(1 - node), 5);
            check.due("its ALONE write", x.fate(1), 4);
        }
    }

    private static void target() {
        for (int node : Scene.NODES) {
            TwinVolume x = Scene.sourceAt(node, 3);
            x.copy(node);
            x.crash(1 - node);
            check.due("TORN stays", x.state(1 - node), 4);
            check.due("not SOURCE", x.state(node), 3);
            check.due("nothing is under way", x.traffic(node), 0);
            check.due("fate of the SOURCE's write", x.fate(1), 3);
            x.restart(1 - node);
            check.due("TORN stays", x.state(1 - node), 5);
        }
    }

    private static void bothGoDown() {
        for (int node : Scene.NODES) {
            TwinVolume x = Scene.pending(node, 3);
            check.due("crash", x.crash(1 - node), true);
            check.due("crash", x.crash(node), true);
            check.due("fate", x.fate(1), 4);
            check.due("state", x.state(node), 8);
            check.due("state", x.state(1 - node), 0);
            check.due("it ended up alone first", x.generation(node), Scene.generation(2, 1));
            check.due("crash again", x.crash(node) || x.crash(1 - node), false);
        }
    }
}
