/** Promise 13: discard. */
public final class Promise13DiscardTest {
    private static final Check check = new Check("promise 13");

    public static void main(String[] args) {
        badNode();
        notUp();
        primary();
        linked();
        peerIsTorn();
        givesUp();
        diskAndLogStay();
        again();
        peerThatIsDownOrPrimary();
        leadsToAWholeUpdate();
        numbersAreNotUsedAgain();
        check.end();
    }

    private static void badNode() {
        for (int node : Scene.NO_NODES) {
            Twins.denied(check, "discard of node " + node, Scene::split, x -> x.discard(node));
        }
    }

    private static TwinVolume down(TwinVolume x, int node) {
        x.crash(node);
        return x;
    }

    private static void notUp() {
        for (int node : Scene.NODES) {
            Twins.denied(check, "a node that is down", () -> down(Scene.split(), node), x -> x.discard(node));
            Twins.denied(check, "a PRIMARY that went down", () -> down(Scene.alone(node), node),
                    x -> x.discard(node));
        }
    }

    private static void primary() {
        for (int node : Scene.NODES) {
            Twins.denied(check, "a PRIMARY node", () -> Scene.alone(node), x -> x.discard(node));
        }
    }

    private static void linked() {
        for (int node : Scene.NODES) {
            Twins.denied(check, "a linked node", () -> Scene.linked(1 - node), x -> x.discard(node));
            Twins.denied(check, "a linked PRIMARY", () -> Scene.pending(node, 3), x -> x.discard(node));
        }
        for (int node : Scene.NODES) {
            Twins.denied(check, "a TARGET", () -> Scene.sourceAt(1 - node, 3), x -> x.discard(node));
        }
    }

    private static TwinVolume secondaryPeerOfTorn(int torn) {
        TwinVolume x = Scene.torn(torn);
        x.demote(1 - torn);
        return x;
    }

    private static void peerIsTorn() {
        for (int node : Scene.NODES) {
            Twins.denied(check, "the peer is TORN", () -> secondaryPeerOfTorn(1 - node), x -> x.discard(node));
            Twins.denied(check, "the peer is TORN and down", () -> down(secondaryPeerOfTorn(1 - node), 1 - node),
                    x -> x.discard(node));
        }
    }

    private static void givesUp() {
        TwinVolume x = Scene.pending(0, 9);
        Scene.settle(x);
        x.cut();
        x.crash(0);
        x.restart(0);
        x.promote(0);
        x.write(0, 5, 2);
        x.demote(0);
        x.promote(1);
        x.write(1, 5, 3);
        check.due("CRASHED before", x.state(0), 9);
        check.due("discard", x.discard(0), true);
        check.due("TORN, not CRASHED", x.state(0), 5);
        check.due("CURRENT and BASE are 0", x.generation(0), 0);
        check.due("its MAP is empty", x.map(0), 0);
        check.due("an acknowledged write stays", x.fate(1), 2);
        check.due("an ALONE write is LOST", x.fate(2), 4);
        check.due("the peer's ALONE write stays", x.fate(3), 3);
        check.due("the peer stays", x.generation(1), Scene.generation(3, 1));
        check.due("the peer's state", x.state(1), 3);
        check.due("the peer's MAP", x.map(1), Scene.blocks(5));
    }

    private static void diskAndLogStay() {
        for (int node : Scene.NODES) {
            TwinVolume x = Scene.alone(node);
            x.write(node, 0, Integer.MAX_VALUE);
            x.write(node, 31, 5);
            x.demote(node);
            x.discard(node);
            check.due("disk", x.disk(node, 0), Integer.MAX_VALUE);
            check.due("disk", x.disk(node, 31), 5);
            check.due("log", Scene.log(x, node), "7,0,-1");
        }
    }

    private static void again() {
        for (int node : Scene.NODES) {
            TwinVolume x = new TwinVolume();
            check.due("discard", x.discard(node), true);
            String before = Scene.all(x);
            check.due("discard of a TORN node", x.discard(node), true);
            check.due("after discard of a TORN node", Scene.all(x), before);
            TwinVolume y = Scene.torn(node);
            check.due("discard of a TORN node", y.discard(node), true);
            check.due("generation", y.generation(node), 0);
        }
    }

    private static void peerThatIsDownOrPrimary() {
        for (int node : Scene.NODES) {
            check.due("the peer is down", down(new TwinVolume(), 1 - node).discard(node), true);
            check.due("the peer is PRIMARY", Scene.alone(1 - node).discard(node), true);
        }
    }

    private static void leadsToAWholeUpdate() {
        TwinVolume x = Scene.split();
        x.discard(1);
        check.due("connect", x.connect(), 1);
        check.due("map", x.map(0), -1);
        Scene.update(x);
        check.due("state", x.state(1), 17);
        check.due("generation", x.generation(1), Scene.generation(2, 0));
        check.due("what was given up is gone", x.disk(1, 1), 0);
        check.due("what the SOURCE had", x.disk(1, 0), 7);
        check.due("fate", x.fate(1), 2);
        check.due("fate", x.fate(2), 4);
    }

    private static void numbersAreNotUsedAgain() {
        TwinVolume x = Scene.split();
        check.due("the greatest number", x.generation(1), Scene.generation(3, 1));
        x.discard(1);
        x.connect();
        Scene.update(x);
        x.promote(1);
        x.cut();
        x.write(1, 0, 1);
        check.due("a number that was given up is not fresh", x.generation(1), Scene.generation(4, 2));
    }
}
