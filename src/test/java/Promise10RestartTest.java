/** Promise 10: restart. */
public final class Promise10RestartTest {
    private static final Check check = new Check("promise 10");

    public static void main(String[] args) {
        badNode();
        up();
        secondary();
        crashedPrimary();
        crashedPrimaryWithAnEmptyLog();
        leastAndGreatestExtent();
        mapBeyondTheLog();
        crashedOfLongAgo();
        noLink();
        check.end();
    }

    private static TwinVolume bothDown() {
        TwinVolume x = Scene.pending(0, 9);
        x.crash(0);
        x.crash(1);
        return x;
    }

    private static void badNode() {
        for (int node : Scene.NO_NODES) {
            Twins.denied(check, "restart of node " + node, Promise10RestartTest::bothDown, x -> x.restart(node));
        }
    }

    private static TwinVolume risen(int node) {
        TwinVolume x = Scene.pending(node, 9);
        x.crash(node);
        x.restart(node);
        return x;
    }

    private static void up() {
        for (int node : Scene.NODES) {
            Twins.denied(check, "restart of a new node", TwinVolume::new, x -> x.restart(node));
            Twins.denied(check, "restart of a PRIMARY", () -> Scene.backward(1 - node), x -> x.restart(node));
            Twins.denied(check, "restart in a link", () -> Scene.source(3), x -> x.restart(node));
            Twins.denied(check, "restart again", () -> risen(node), x -> x.restart(node));
        }
        Twins.denied(check, "restart of a CRASHED PRIMARY", Promise10RestartTest::crashedPrimaryOnceMore,
                x -> x.restart(0));
    }

    /** CRASHED and up with an extent in its LOG that is not in its MAP as a whole. */
    private static TwinVolume crashedPrimaryOnceMore() {
        TwinVolume x = risen(0);
        x.promote(0);
        x.write(0, 20, 1);
        return x;
    }

    private static void secondary() {
        for (int node : Scene.NODES) {
            TwinVolume x = Scene.alone(node);
            x.write(node, 9, 1);
            x.demote(node);
            x.crash(node);
            check.due("restart", x.restart(node), true);
            check.due("state", x.state(node), 1);
            check.due("its LOG does not join its MAP", x.map(node), Scene.blocks(9));
            check.due("its LOG stays", Scene.log(x, node), "2,-1,-1");
        }
    }

    private static void crashedPrimary() {
        TwinVolume x = Scene.linked(1);
        for (int block : new int[] {0, 9, 30, 12}) {
            x.write(1, block, 1);
            Scene.settle(x);
        }
        x.cut();
        x.write(1, 5, 2);
        x.crash(1);
        check.due("map before", x.map(1), Scene.blocks(5));
        check.due("log before", Scene.log(x, 1), "1,3,7");
        check.due("restart", x.restart(1), true);
        check.due("as a secondary, CRASHED", x.state(1), 9);
        check.due("all blocks of the LOG's extents", x.map(1), 0xf000f0f0);
        check.due("the LOG stays", Scene.log(x, 1), "1,3,7");
        check.due("disk", x.disk(1, 5), 2);
        check.due("generation", x.generation(1), Scene.generation(2, 1));
        check.due("the peer's MAP", x.map(0), 0);
    }

    private static void crashedPrimaryWithAnEmptyLog() {
        for (int node : Scene.NODES) {
            TwinVolume x = Scene.alone(node);
            x.crash(node);
            check.due("restart", x.restart(node), true);
            check.due("state", x.state(node), 9);
            check.due("map", x.map(node), 0);
        }
    }

    private static void leastAndGreatestExtent() {
        for (int node : Scene.NODES) {
            TwinVolume x = Scene.pending(node, 0);
            x.crash(node);
            x.restart(node);
            check.due("extent 0", x.map(node), 0xf);
            TwinVolume y = Scene.pending(node, 31);
            y.crash(node);
            y.restart(node);
            check.due("extent 7", y.map(node), 0xf0000000);
        }
    }

    private static void mapBeyondTheLog() {
        for (int node : Scene.NODES) {
            TwinVolume x = Scene.alone(node);
            for (int block = 0; block < 16; block += 4) {
                x.write(node, block, 1);
            }
            x.crash(node);
            x.restart(node);
            check.due("block 0 stays in the MAP", x.map(node), 0xfff1);
        }
    }

    private static void crashedOfLongAgo() {
        for (int node : Scene.NODES) {
            TwinVolume x = Scene.alone(node);
            x.write(node, 0, 1);
            x.crash(node);
            x.restart(node);
            x.promote(node);
            x.write(node, 20, 1);
            check.due("map", x.map(node), 0xf | Scene.blocks(20));
            x.demote(node);
            x.crash(node);
            check.due("CRASHED stays", x.state(node), 8);
            check.due("restart", x.restart(node), true);
            check.due("state", x.state(node), 9);
            check.due("CRASHED before it was demoted", x.map(node), 0xf0000f);
        }
    }

    private static void noLink() {
        TwinVolume x = bothDown();
        check.due("restart", x.restart(0), true);
        check.due("the peer is down", x.state(1), 0);
        check.due("restart", x.restart(1), true);
        check.due("not linked", x.state(0) + x.state(1), 10);
        check.due("connect", x.connect(), 1);
    }
}
