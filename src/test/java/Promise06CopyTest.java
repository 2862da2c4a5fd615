/** Promise 6: copy. */
public final class Promise06CopyTest {
    private static final Check check = new Check("promise 6");

    public static void main(String[] args) {
        badNode();
        notSource();
        fourUnderWay();
        fourUnderWayTillCopied();
        allUnderWay();
        allPending();
        underWayOrPending();
        leastBlockFirst();
        leastAndGreatestBlock();
        pendingTillTheAck();
        pendingOfAnotherBlock();
        whatItDoes();
        valueOfTheMoment();
        writeWhileUnderWay();
        check.end();
    }

    private static void badNode() {
        for (int node : Scene.NO_NODES) {
            Twins.refused(check, "copy at node " + node, () -> Scene.source(3), x -> x.copy(node), -1);
        }
    }

    private static TwinVolume cutSource() {
        TwinVolume x = Scene.source(3, 4);
        x.copy(0);
        x.cut();
        return x;
    }

    private static void notSource() {
        for (int node : Scene.NODES) {
            Twins.refused(check, "copy when not linked", () -> Scene.backward(node), x -> x.copy(node), -1);
            Twins.refused(check, "copy when none is SOURCE", () -> Scene.linked(0), x -> x.copy(node), -1);
            Twins.refused(check, "copy after a break", Promise06CopyTest::cutSource, x -> x.copy(node), -1);
            Twins.refused(check, "copy after END", Scene::finishing, x -> x.copy(node), -1);
        }
        Twins.refused(check, "copy at the TARGET", () -> Scene.source(3), x -> x.copy(1), -1);
        Twins.refused(check, "copy at a TARGET with a MAP", Promise06CopyTest::targetWithMap, x -> x.copy(0), -1);
    }

    private static TwinVolume targetWithMap() {
        TwinVolume x = Scene.pending(0, 8);
        x.crash(0);
        x.restart(0);
        x.promote(1);
        x.connect();
        return x;
    }

    private static TwinVolume copying(int copies, int... blocks) {
        TwinVolume x = Scene.source(blocks);
        for (int k = 0; k < copies; k++) {
            x.copy(0);
        }
        return x;
    }

    private static void fourUnderWay() {
        TwinVolume x = copying(3, 0, 1, 2, 3, 4, 5);
        check.due("a fourth", x.copy(0), 3);
        Twins.refused(check, "a fifth", () -> copying(4, 0, 1, 2, 3, 4, 5), y -> y.copy(0), -1);
        Twins.refused(check, "a fifth at the end", () -> copying(4, 27, 28, 29, 30, 31), y -> y.copy(0), -1);
    }

    private static void fourUnderWayTillCopied() {
        TwinVolume x = copying(4, 0, 1, 2, 3, 4, 5);
        x.deliver(0);
        check.due("till COPIED has arrived", x.copy(0), -1);
        x.deliver(1);
        check.due("three are under way", x.copy(0), 4);
        check.due("four are under way", x.copy(0), -1);
        x.cut();
        x.connect();
        check.due("none is under way on the next link", x.copy(0), 1);
    }

    private static void allUnderWay() {
        Twins.refused(check, "all blocks are under way", () -> copying(1, 31), x -> x.copy(0), -1);
        Twins.refused(check, "all blocks are under way", () -> copying(3, 0, 9, 31), x -> x.copy(0), -1);
    }

    private static TwinVolume allPendingSource() {
        TwinVolume x = Scene.source(0, 31);
        x.write(0, 31, 5);
        x.write(0, 0, 6);
        return x;
    }

    private static void allPending() {
        Twins.refused(check, "all blocks have PENDING writes", Promise06CopyTest::allPendingSource, x -> x.copy(0), -1);
    }

    private static void underWayOrPending() {
        TwinVolume x = Scene.source(0, 1, 2);
        x.copy(0);
        x.write(0, 1, 6);
        check.due("neither under way nor PENDING", x.copy(0), 2);
        check.due("no such block", x.copy(0), -1);
    }

    private static void leastBlockFirst() {
        TwinVolume x = Scene.source(30, 5, 31);
        check.due("copy", x.copy(0), 5);
        check.due("copy", x.copy(0), 30);
        check.due("copy", x.copy(0), 31);
        check.due("the MAP stays", x.map(0), Scene.blocks(5, 30, 31));
        check.due("traffic", x.traffic(0), 30003);
    }

    private static void leastAndGreatestBlock() {
        check.due("the least block", Scene.source(0).copy(0), 0);
        check.due("the greatest block", Scene.source(31).copy(0), 31);
        TwinVolume x = new TwinVolume();
        x.discard(0);
        x.connect();
        for (int round = 0; round < 8; round++) {
            for (int k = 0; k < 4; k++) {
                check.due("all blocks in turn", x.copy(1), 4 * round + k);
            }
            Scene.deliverAll(x, 1);
            Scene.deliverAll(x, 0);
        }
        check.due("END after block 31", x.state(1), 17);
    }

    private static void pendingTillTheAck() {
        TwinVolume x = Scene.source(0, 1);
        x.write(0, 0, 5);
        x.deliver(0);
        x.store(1, 0);
        check.due("block 0 is PENDING till the ACK arrives", x.copy(0), 1);
        TwinVolume y = Scene.source(0, 1);
        y.write(0, 0, 5);
        y.write(0, 0, 6);
        y.deliver(0);
        y.store(1, 0);
        y.deliver(1);
        check.due("the first ACK took block 0 out of the MAP", y.map(0), Scene.blocks(1));
        check.due("copy", y.copy(0), 1);
        check.due("copy", y.copy(0), -1);
    }

    private static void pendingOfAnotherBlock() {
        TwinVolume x = Scene.source(4);
        x.write(0, 5, 1);
        check.due("a PENDING write in the same extent", x.copy(0), 4);
    }

    private static void whatItDoes() {
        for (int node : Scene.NODES) {
            TwinVolume x = Scene.alone(node);
            x.write(node, 7, 70);
            x.connect();
            check.due("copy", x.copy(node), 7);
            check.due("under way and on the way", x.traffic(node), 10001);
            check.due("traffic of the TARGET", x.traffic(1 - node), 0);
            check.due("the peer's disk till COPY arrives", x.disk(1 - node, 7), 0);
            check.due("in the MAP till COPIED arrives", x.map(node), Scene.blocks(7));
            check.due("COPY", x.deliver(node), 3);
            check.due("the peer's disk", x.disk(1 - node, 7), 70);
        }
    }

    private static void valueOfTheMoment() {
        TwinVolume x = Scene.source(0, 1);
        x.copy(0);
        x.write(0, 0, 5);
        x.deliver(0);
        check.due("COPY has what the disk held", x.disk(1, 0), 100);
        Scene.settle(x);
        check.due("the write comes behind", x.disk(1, 0), 5);
        TwinVolume y = Scene.source(0, 31);
        y.write(0, 20, 5);
        y.copy(0);
        y.write(0, 31, 7);
        Scene.settle(y);
        check.due("the write alone brings the block", y.disk(1, 31), 7);
        check.due("state", y.state(1), 17);
    }

    private static void writeWhileUnderWay() {
        TwinVolume x = Scene.source(0);
        x.copy(0);
        x.write(0, 0, 5);
        check.due("COPY", x.deliver(0), 3);
        check.due("DATA", x.deliver(0), 1);
        check.due("COPIED", x.deliver(1), 4);
        check.due("END though a write is PENDING", x.state(0), 19);
        check.due("fate", x.fate(2), 1);
        check.due("FINISH", x.deliver(0), 5);
        Scene.settle(x);
        check.due("fate", x.fate(2), 2);
        check.due("generations are one", x.generation(1), x.generation(0));
    }
}
