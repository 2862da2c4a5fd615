/** Promise 3: barrier, and the epochs of writes. */
public final class Promise03BarrierTest {
    private static final Check check = new Check("promise 3");

    public static void main(String[] args) {
        refused();
        separatesWrites();
        barrierBeforeTheFirstWrite();
        refusedWriteKeepsTheBarrier();
        sameBlockBeginsAnEpoch();
        acknowledgedBlockBeginsNone();
        check.end();
    }

    private static void refused() {
        TwinVolume x = Scene.linked(0);
        for (int node : Scene.NO_NODES) {
            check.due("barrier at no node", x.barrier(node), false);
        }
        check.due("barrier at a secondary", x.barrier(1), false);
        x.write(0, 0, 1);
        check.due("barrier at a secondary", x.barrier(1), false);
        x.write(0, 1, 1);
        x.deliver(0);
        x.deliver(0);
        check.due("a refused barrier separates nothing", x.store(1, 1), 2);
        x.crash(0);
        check.due("barrier at a node that is down", x.barrier(0), false);
        TwinVolume fresh = new TwinVolume();
        check.due("barrier at a secondary", fresh.barrier(0), false);
    }

    private static void separatesWrites() {
        TwinVolume x = Scene.linked(1);
        x.write(1, 0, 1);
        x.write(1, 1, 1);
        String before = Scene.all(x);
        check.due("barrier", x.barrier(1), true);
        check.due("barrier again", x.barrier(1), true);
        check.due("after barriers", Scene.all(x), before);
        x.write(1, 2, 1);
        x.write(1, 3, 1);
        deliverAll(x, 1);
        check.due("no write of the later epoch", x.store(0, 2), 0);
        check.due("first epoch", x.store(0, 1), 2);
        check.due("no write of the later epoch", x.store(0, 1), 0);
        check.due("first epoch", x.store(0, 0), 1);
        check.due("two barriers begin one epoch", x.store(0, 1), 4);
        check.due("second epoch", x.store(0, 0), 3);
    }

    private static void barrierBeforeTheFirstWrite() {
        TwinVolume x = Scene.linked(0);
        x.barrier(0);
        x.write(0, 0, 1);
        x.write(0, 1, 1);
        deliverAll(x, 0);
        check.due("both are of one epoch", x.store(1, 1), 2);
    }

    private static void refusedWriteKeepsTheBarrier() {
        TwinVolume x = Scene.linked(0);
        x.write(0, 0, 1);
        x.write(0, 4, 1);
        x.write(0, 8, 1);
        x.barrier(0);
        check.due("write", x.write(0, 12, 1), TwinVolume.BUSY);
        x.write(0, 1, 1);
        deliverAll(x, 0);
        check.due("the barrier stands before write 4", x.store(1, 3), 0);
        check.due("first epoch", x.store(1, 2), 3);
    }

    private static void sameBlockBeginsAnEpoch() {
        TwinVolume x = Scene.linked(0);
        x.write(0, 0, 1);
        x.write(0, 1, 1);
        x.write(0, 0, 2);
        x.write(0, 2, 1);
        deliverAll(x, 0);
        check.due("third write is later", x.store(1, 2), 0);
        check.due("first epoch", x.store(1, 0), 1);
        check.due("first epoch has one more", x.store(1, 1), 0);
        check.due("first epoch", x.store(1, 0), 2);
        check.due("the write after it is of the new epoch", x.store(1, 1), 4);
        check.due("new epoch", x.store(1, 0), 3);
        check.due("disk", x.disk(1, 0), 2);
    }

    private static void acknowledgedBlockBeginsNone() {
        TwinVolume x = Scene.linked(0);
        x.write(0, 0, 1);
        x.write(0, 1, 1);
        deliverAll(x, 0);
        x.store(1, 0);
        x.write(0, 0, 2);
        x.deliver(0);
        check.due("write 1 is PENDING till its ACK arrives", x.store(1, 1), 0);
        TwinVolume y = Scene.linked(0);
        y.write(0, 0, 1);
        y.write(0, 1, 1);
        deliverAll(y, 0);
        y.store(1, 0);
        y.deliver(1);
        y.write(0, 0, 2);
        y.deliver(0);
        check.due("write 1 is PENDING no longer", y.store(1, 1), 3);
    }

    private static void deliverAll(TwinVolume x, int from) {
        for (int k = 0; k < 16 && x.deliver(from) != 0; k++) {
            continue;
        }
    }
}
