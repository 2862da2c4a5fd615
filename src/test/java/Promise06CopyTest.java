/** Promise 6: copy. */
public final class Promise06CopyTest {
    private static final Check check = new Check("promise 6");

    public static void main(String[] args) {
        badNode();
        notSource();
        fourUnderWay();
        fourUnderWayTillCopied();
        allUnderWay();
        allPending();
        underWayOrPending();
        leastBlockFirst();
        leastAndGreatestBlock();
        pendingTillTheAck();
        pendingOfAnotherBlock();
        whatItDoes();
        valueOfTheMoment();
        writeWhileUnderWay();
        check.end();
    }

    private static void badNode() {
        for (int node : Scene.NO_NODES) {
            for (int source : Scene.NODES) {
                Twins.refused(check, "copy at node " + node, () -> Scene.sourceAt(source, 3), x -> x.copy(node), -1);
            }
        }
    }

    private static TwinVolume cutSource() {
        TwinVolume x = Scene.source(3, 4);
        x.copy(0);
        x.cut();
        return x;
    }

    private static void notSource() {
        for (int node : Scene.NODES) {
            Twins.refused(check, "copy when not linked", () -> Scene.backward(node), x -> x.copy(node), -1);
            Twins.refused(check, "copy when none is SOURCE", () -> Scene.linked(0), x -> x.copy(node), -1);
            Twins.refused(check, "copy after a break", Promise06CopyTest::cutSource, x -> x.copy(node), -1);
            Twins.refused(check, "copy after END", Scene::finishing, x -> x.copy(node), -1);
            Twins.refused(check, "copy at the TARGET", () -> Scene.sourceAt(1 - node, 3), x -> x.copy(node), -1);
        }
        Twins.refused(check, "copy at a TARGET with a MAP", Promise06CopyTest::targetWithMap, x -> x.copy(0), -1);
    }

    private static TwinVolume targetWithMap() {
        TwinVolume x = Scene.pending(0, 8);
        x.crash(0);
        x.restart(0);
        x.promote(1);
        x.connect();
        return x;
    }

    private static TwinVolume copying(int copies, int... blocks) {
        TwinVolume x = Scene.source(blocks);
        for (int k = 0; k < copies; k++) {
            x.copy(0);
        }
        return x;
    }

    private static void fourUnderWay() {
        TwinVolume x = copying(3, 0, 1, 2, 3, 4, 5);
        check.due("a fourth", x.copy(0), 3);
        Twins.refused(check, "a fifth", () -> copying(4, 0, 1, 2, 3, 4, 5), y -> y.copy(0), -1);
        Twins.refused(check, "a fifth at the end", () -> copying(4, 27, 28, 29, 30, 31), y -> y.copy(0), -1);
    }

    private static void fourUnderWayTillCopied() {
        TwinVolume x = copying(4, 0, 1, 2, 3, 4, 5);
        x.deliver(0);
        check.due("till COPIED has arrived", x.copy(0), -1);
        x.deliver(1);
        check.due("three are under way", x.copy(0), 4);
        check.due("four are under way", x.copy(0), -1);
        x.cut();
        x.connect();
        check.due("none is under way on the next link", x.copy(0), 1);
    }

    private static void allUnderWay() {
        Twins.refused(check, "all blocks are under way", () -> copying(1, 31), x -> x.copy(0), -1);
        Twins.refused(check, "all blocks are under way", () -> copying(3, 0, 9, 31), x -> x.copy(0), -1);
    }

    private static TwinVolume allPendingSource() {
        TwinVolume x = Scene.source(0, 31);
        x.write(0, 31, 5);
        x.write(0, 0, 6);
        return x;
    }

    private static void allPending() {
        Twins.refused(check, "all blocks have PENDING writes", Promise06CopyTest::allPendingSource, x -> x.copy(0), -1);
    }

    private static void underWayOrPending() {
        for (int node : Scene.NODES) {
            TwinVolume x = Scene.sourceAt(node, 0, 1, 2);
            x.copy(node);
            x.write(node, 1, 6);
            check.due("neither under way nor PENDING", x.copy(node), 2);
            check.due("no such block", x.copy(node), -1);
        }
    }

    private static void leastBlockFirst() {
        for (int node : Scene.NODES) {
            TwinVolume x = Scene.sourceAt(node, 30, 5, 31);
            check.due("copy", x.copy(node), 5);
            check.due("copy", x.copy(node), 30);
            check.due("copy", x.copy(node), 31);
            check.due("the MAP stays", x.map(node), Scene.blocks(5, 30, 31));
            check.due("traffic", x.traffic(node), 30003);
        }
    }

    private static void leastAndGreatestBlock() {
        check.due("the least block", Scene.source(0).copy(0), 0);
        check.due("the greatest block", Scene.source(31).copy(0), 31);
        TwinVolume x = new TwinVolume();
        x.discard(0);
        x.connect();
        for (int round = 0; round < 8; round++) {
            for (int k = 0; k < 4; k++) {
                check.due("all blocks in turn", x.copy(1), 4 * round + k);
            }
            Scene.deliverAll(x, 1);
            Scene.deliverAll(x, 0);
        }
        check.due("END after block 31", x.state(1), 17);
    }

    private static void pendingTillTheAck() {
        for (int node : Scene.NODES) {
            TwinVolume x = Scene.sourceAt(node, 0, 1);
            x.write(node, 0, 5);
            x.deliver(node);
            x.store(1 - node, 0);
            check.due("block 0 is PENDING till the ACK arrives", x.copy(node), 1);
            TwinVolume y = Scene.sourceAt(node, 0, 1);
            y.write(node, 0, 5);
            y.write(node, 0, 6);
            y.deliver(node);
            y.store(1 - node, 0);
            y.deliver(1 - node);
            check.due("the first ACK took block 0 out of the MAP", y.map(node), Scene.blocks(1));
            check.due("copy", y.copy(node), 1);
            check.due("copy", y.copy(node), -1);
        }
    }

    private static void pendingOfAnotherBlock() {
        for (int node : Scene.NODES) {
            TwinVolume x = Scene.sourceAt(node, 4);
            x.write(node, 5, 1);
            check.due("a PENDING write in the same extent", x.copy(node), 4);
        }
    }

    private static void whatItDoes() {
        for (int node : Scene.NODES) {
            TwinVolume x = Scene.alone(node);
            x.write(node, 7, 70);
            x.connect();
            check.due("copy", x.copy(node), 7);
            check.due("under way and on the way", x.traffic(node), 10001);
            check.due("traffic of the TARGET", x.traffic(1 - node), 0);
            check.due("the peer's disk till COPY arrives", x.disk(1 - node, 7), 0);
            check.due("in the MAP till COPIED arrives", x.map(node), Scene.blocks(7));
            check.due("COPY", x.deliver(node), 3);
            check.due("the peer's disk", x.disk(1 - node, 7), 70);
        }
    }

    private static void valueOfTheMoment() {
        for (int node : Scene.NODES) {
            TwinVolume x = Scene.sourceAt(node, 0, 1);
            x.copy(node);
            x.write(node, 0, 5);
            x.deliver(node);
            check.due("COPY has what the disk held", x.disk(1 - node, 0), 100);
            Scene.settle(x);
            check.due("the write comes behind", x.disk(1 - node, 0), 5);
            TwinVolume y = Scene.sourceAt(node, 0, 31);
            y.write(node, 20, 5);
            y.copy(node);
            y.write(node, 31, 7);
            Scene.settle(y);
            check.due("the write alone brings the block", y.disk(1 - node, 31), 7);
            check.due("state", y.state(1 - node), 17);
        }
    }

    private static void writeWhileUnderWay() {
        for (int node : Scene.NODES) {
            TwinVolume x = Scene.sourceAt(node, 0);
            x.copy(node);
            x.write(node, 0, 5);
            check.due("the block is under way still", x.traffic(node), 10002);
            check.due("the block is in the MAP still", x.map(node), Scene.blocks(0));
            check.due("no second COPY", x.copy(node), -1);
            check.due("COPY", x.deliver(node), 3);
            check.due("DATA", x.deliver(node), 1);
            check.due("COPIED", x.deliver(1 - node), 4);
            check.due("END though a write is PENDING", x.state(node), 19);
            check.due("fate", x.fate(2), 1);
            check.due("FINISH", x.deliver(node), 5);
            Scene.settle(x);
            check.due("fate", x.fate(2), 2);
            check.due("generations are one", x.generation(1 - node), x.generation(node));
        }
    }
}
