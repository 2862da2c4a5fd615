/** Promise 3: barrier, and the epochs of writes. */
public final class Promise03BarrierTest {
    private static final Check check = new Check("promise 3");

    public static void main(String[] args) {
        badNode();
        notUp();
        notPrimary();
        changesNothingThatCanBeRead();
        separatesWrites();
        oneEpochHoweverOften();
        isForOneWriteAlone();
        atANodeThatIsNotLinked();
        beforeTheFirstWrite();
        refusedWriteKeepsTheBarrier();
        sameBlockPending();
        sameBlockPendingAgainAndAgain();
        manyEpochs();
        sameBlockPendingOfAnEarlierEpoch();
        sameBlockTillItsAckArrives();
        sameBlockAcknowledged();
        sameBlockAlone();
        sameBlockLost();
        sameExtentIsNotTheSameBlock();
        firstWriteOfEachNode();
        nothingElseBeginsAnEpoch();
        check.end();
    }

    private static void badNode() {
        for (int node : Scene.NO_NODES) {
            Twins.denied(check, "barrier at node " + node, () -> Scene.waiting(0, 0), x -> x.barrier(node));
            Twins.denied(check, "barrier at node " + node, () -> Scene.waiting(1, 0), x -> x.barrier(node));
        }
    }

    private static void notUp() {
        for (int node : Scene.NODES) {
            Twins.denied(check, "barrier at a node that is down", () -> down(node), x -> x.barrier(node));
        }
    }

    private static TwinVolume down(int node) {
        TwinVolume x = Scene.pending(node, 0, 1);
        x.crash(node);
        return x;
    }

    private static void notPrimary() {
        for (int node : Scene.NODES) {
            Twins.denied(check, "barrier at a new node", TwinVolume::new, x -> x.barrier(node));
            Twins.denied(check, "barrier at the secondary", () -> Scene.waiting(1 - node, 0), x -> x.barrier(node));
            TwinVolume x = Scene.pending(1 - node, 0);
            x.barrier(node);
            x.write(1 - node, 1, 1);
            Scene.deliverAll(x, 1 - node);
            check.due("a refused barrier separates nothing", x.store(node, 1), 2);
        }
    }

    private static void changesNothingThatCanBeRead() {
        for (int node : Scene.NODES) {
            TwinVolume x = Scene.waiting(node, 0, 31);
            String before = Scene.all(x);
            check.due("barrier", x.barrier(node), true);
            check.due("after a barrier", Scene.all(x), before);
        }
    }

    private static void separatesWrites() {
        for (int node : Scene.NODES) {
            TwinVolume x = Scene.pending(node, 0, 1);
            x.barrier(node);
            x.write(node, 2, 1);
            x.write(node, 3, 1);
            Scene.deliverAll(x, node);
            check.due("no write of the later epoch", x.store(1 - node, 2), 0);
            check.due("first epoch", x.store(1 - node, 1), 2);
            check.due("no write of the later epoch", x.store(1 - node, 1), 0);
            check.due("first epoch", x.store(1 - node, 0), 1);
            check.due("second epoch", x.store(1 - node, 1), 4);
            check.due("second epoch", x.store(1 - node, 0), 3);
        }
    }

    private static void oneEpochHoweverOften() {
        for (int node : Scene.NODES) {
            TwinVolume x = Scene.pending(node, 0);
            for (int k = 0; k < 3; k++) {
                check.due("barrier", x.barrier(node), true);
            }
            x.write(node, 1, 1);
            x.write(node, 2, 1);
            x.write(node, 3, 1);
            Scene.deliverAll(x, node);
            check.due("the barriers stand before write 2", x.store(1 - node, 1), 0);
            check.due("first epoch", x.store(1 - node, 0), 1);
            check.due("three barriers begin one epoch", x.store(1 - node, 2), 4);
            check.due("three barriers begin one epoch", x.store(1 - node, 1), 3);
        }
    }

    private static void isForOneWriteAlone() {
        for (int node : Scene.NODES) {
            TwinVolume x = Scene.linked(node);
            x.write(node, 0, 1);
            x.barrier(node);
            x.write(node, 1, 1);
            x.barrier(node);
            x.write(node, 2, 1);
            Scene.deliverAll(x, node);
            for (int write = 1; write <= 3; write++) {
                check.due("each epoch has one write", x.store(1 - node, 1), 0);
                check.due("each epoch has one write", x.store(1 - node, 0), write);
            }
        }
    }

    private static void atANodeThatIsNotLinked() {
        for (int node : Scene.NODES) {
            TwinVolume x = Scene.alone(node);
            check.due("barrier alone", x.barrier(node), true);
            x.crash(1 - node);
            check.due("barrier when the peer is down", x.barrier(node), true);
        }
    }

    private static void beforeTheFirstWrite() {
        for (int node : Scene.NODES) {
            TwinVolume x = Scene.linked(node);
            x.barrier(node);
            x.write(node, 0, 1);
            x.write(node, 1, 1);
            Scene.deliverAll(x, node);
            check.due("both are of one epoch", x.store(1 - node, 1), 2);
        }
    }

    private static void refusedWriteKeepsTheBarrier() {
        TwinVolume x = Scene.pending(0, 0, 4, 8);
        x.barrier(0);
        check.due("BUSY", x.write(0, 12, 1), TwinVolume.BUSY);
        check.due("BAD", x.write(0, 32, 1), TwinVolume.BAD);
        x.write(0, 1, 1);
        Scene.deliverAll(x, 0);
        check.due("the barrier stands before write 4", x.store(1, 3), 0);
        check.due("first epoch", x.store(1, 2), 3);
        TwinVolume y = Scene.eightPending(0);
        y.barrier(0);
        check.due("FULL", y.write(0, 10, 1), TwinVolume.FULL);
        y.deliver(0);
        y.store(1, 0);
        y.deliver(1);
        y.write(0, 10, 1);
        Scene.deliverAll(y, 0);
        check.due("the barrier stands before write 9", y.store(1, 7), 0);
        check.due("first epoch", y.store(1, 6), 8);
    }

    private static void sameBlockPending() {
        for (int node : Scene.NODES) {
            TwinVolume x = Scene.waiting(node, 0, 1, 0, 2);
            check.due("third write is later", x.store(1 - node, 2), 0);
            check.due("first epoch", x.store(1 - node, 0), 1);
            check.due("first epoch has one more", x.store(1 - node, 1), 0);
            check.due("first epoch", x.store(1 - node, 0), 2);
            check.due("the write after it is of the new epoch", x.store(1 - node, 1), 4);
            check.due("new epoch", x.store(1 - node, 0), 3);
        }
    }

    private static void sameBlockPendingAgainAndAgain() {
        for (int node : Scene.NODES) {
            TwinVolume x = Scene.waiting(node, 31, 31, 31, 31, 31, 31, 31, 31);
            for (int write = 1; write <= 8; write++) {
                check.due("each is of a new epoch", x.store(1 - node, 1), 0);
                check.due("each is of a new epoch", x.store(1 - node, 0), write);
            }
        }
    }

    /** A hundred writes to one block, each of a new epoch as the one before it is PENDING still. */
    private static void manyEpochs() {
        TwinVolume x = Scene.linked(0);
        x.write(0, 3, 0);
        x.deliver(0);
        for (int write = 2; write <= 100; write++) {
            check.due("write", x.write(0, 3, write), write);
            x.deliver(0);
            check.due("the later one", x.store(1, 1), 0);
            check.due("the earlier one", x.store(1, 0), write - 1);
            check.due("ACK", x.deliver(1), 2);
        }
    }

    private static void sameBlockPendingOfAnEarlierEpoch() {
        for (int node : Scene.NODES) {
            TwinVolume x = Scene.pending(node, 0);
            x.barrier(node);
            x.write(node, 1, 1);
            x.write(node, 0, 1);
            Scene.deliverAll(x, node);
            x.store(1 - node, 0);
            check.due("write 3 is later than write 2", x.store(1 - node, 1), 0);
            check.due("write 2", x.store(1 - node, 0), 2);
            check.due("write 3", x.store(1 - node, 0), 3);
        }
    }

    private static void sameBlockTillItsAckArrives() {
        for (int node : Scene.NODES) {
            TwinVolume x = Scene.waiting(node, 0, 1);
            x.store(1 - node, 0);
            x.write(node, 0, 2);
            x.deliver(node);
            check.due("write 1 is PENDING till its ACK arrives", x.store(1 - node, 1), 0);
        }
    }

    private static void sameBlockAcknowledged() {
        for (int node : Scene.NODES) {
            TwinVolume x = Scene.waiting(node, 0, 1);
            x.store(1 - node, 0);
            x.deliver(1 - node);
            x.write(node, 0, 2);
            x.deliver(node);
            check.due("write 1 is PENDING no longer", x.store(1 - node, 1), 3);
        }
    }

    private static void sameBlockAlone() {
        for (int node : Scene.NODES) {
            TwinVolume x = Scene.sourceAt(node, 3);
            x.write(node, 5, 1);
            x.write(node, 3, 1);
            Scene.deliverAll(x, node);
            check.due("an ALONE write begins no epoch", x.store(1 - node, 1), 3);
        }
    }

    private static void sameBlockLost() {
        for (int node : Scene.NODES) {
            TwinVolume x = Scene.pending(node, 3);
            x.crash(node);
            x.restart(node);
            x.promote(node);
            x.connect();
            x.write(node, 5, 1);
            x.write(node, 3, 1);
            check.due("fate", x.fate(1), 4);
            Scene.deliverAll(x, node);
            check.due("a LOST write begins no epoch", x.store(1 - node, 1), 3);
        }
    }

    private static void sameExtentIsNotTheSameBlock() {
        for (int node : Scene.NODES) {
            TwinVolume x = Scene.waiting(node, 0, 1, 2, 3, 28, 29, 30, 31);
            check.due("all are of one epoch", x.store(1 - node, 7), 8);
            check.due("all are of one epoch", x.store(1 - node, 6), 7);
        }
    }

    private static void firstWriteOfEachNode() {
        TwinVolume x = Scene.pending(0, 0);
        Scene.settle(x);
        x.demote(0);
        x.promote(1);
        x.write(1, 0, 1);
        x.write(1, 1, 1);
        Scene.deliverAll(x, 1);
        check.due("the first two of node 1 are of one epoch", x.store(0, 1), 3);
        check.due("the first of node 1", x.store(0, 0), 2);
    }

    /** COPY, COPIED, END, FINISH, ACK, a promote and refused calls come between two writes of one epoch. */
    private static void nothingElseBeginsAnEpoch() {
        for (int node : Scene.NODES) {
            TwinVolume x = Scene.sourceAt(node, 3);
            x.write(node, 20, 1);
            x.write(node, 21, 1);
            x.copy(node);
            Scene.deliverAll(x, node);
            check.due("store", x.store(1 - node, 0), 2);
            Scene.deliverAll(x, 1 - node);
            check.due("FINISH", x.deliver(node), 5);
            x.promote(node);
            x.demote(node);
            x.connect();
            x.write(node, 22, 1);
            x.deliver(node);
            check.due("both are of one epoch", x.store(1 - node, 1), 4);
            check.due("both are of one epoch", x.store(1 - node, 0), 3);
        }
    }
}
