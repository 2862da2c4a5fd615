/** Promise 4: deliver, and what happens at each arrival. */
public final class Promise04DeliverTest {
    private static final Check check = new Check("promise 4");

    public static void main(String[] args) {
        nothing();
        data();
        ack();
        ackAtSource();
        copyAndCopied();
        finish();
        endWithPendingWrites();
        finishTakesMarksOff();
        inTheOrderOfSending();
        check.end();
    }

    private static void nothing() {
        TwinVolume x = Scene.linked(0);
        x.write(0, 0, 1);
        String before = Scene.all(x);
        for (int node : Scene.NO_NODES) {
            check.due("deliver from no node", x.deliver(node), 0);
        }
        check.due("deliver of nothing", x.deliver(1), 0);
        check.due("after nothing", Scene.all(x), before);
        check.due("deliver when not linked", new TwinVolume().deliver(0), 0);
    }

    private static void data() {
        TwinVolume x = Scene.linked(0);
        x.write(0, 0, 1);
        check.due("DATA", x.deliver(0), 1);
        check.due("it is on the way no longer", x.traffic(0), 0);
        check.due("it waits", x.traffic(1), 100);
        check.due("it is not on the disk", x.disk(1, 0), 0);
        check.due("fate", x.fate(1), 1);
        check.due("no more", x.deliver(0), 0);
    }

    private static void ack() {
        TwinVolume x = Scene.linked(1);
        x.write(1, 0, 1);
        x.deliver(1);
        x.store(0, 0);
        check.due("fate", x.fate(1), 1);
        check.due("ACK", x.deliver(0), 2);
        check.due("fate", x.fate(1), 2);
        check.due("state", x.state(1), 19);
        check.due("no END at a node that is not SOURCE", x.traffic(1), 0);
    }

    private static void ackAtSource() {
        TwinVolume x = Scene.source(3, 9);
        check.due("write", x.write(0, 3, 5), 3);
        x.deliver(0);
        x.store(1, 0);
        x.deliver(1);
        check.due("the block leaves the MAP", x.map(0), Scene.blocks(9));
        check.due("still SOURCE", x.state(0), 51);
        x.write(0, 9, 6);
        x.deliver(0);
        x.store(1, 0);
        check.due("ALONE till END", x.fate(1), 3);
        check.due("last ACK", x.deliver(1), 2);
        check.due("END: state", x.state(0), 19);
        check.due("END: generation", x.generation(0), Scene.generation(2, 0));
        check.due("END: fate", x.fate(1), 2);
        check.due("END: fate", x.fate(2), 2);
        check.due("END: FINISH is on the way", x.traffic(0), 1);
        check.due("FINISH", x.deliver(0), 5);
    }

    private static void copyAndCopied() {
        TwinVolume x = Scene.source(3, 9);
        x.copy(0);
        check.due("COPY", x.deliver(0), 3);
        check.due("disk", x.disk(1, 3), 103);
        check.due("COPIED is on the way", x.traffic(1), 1);
        check.due("the block is under way still", x.traffic(0), 10000);
        check.due("the block is in the MAP still", x.map(0), Scene.blocks(3, 9));
        check.due("COPIED", x.deliver(1), 4);
        check.due("under way no longer", x.traffic(0), 0);
        check.due("in the MAP no longer", x.map(0), Scene.blocks(9));
        check.due("SOURCE still", x.state(0), 51);
        x.copy(0);
        x.deliver(0);
        check.due("last COPIED", x.deliver(1), 4);
        check.due("END: state", x.state(0), 19);
        check.due("END: FINISH is on the way", x.traffic(0), 1);
    }

    private static void finish() {
        TwinVolume x = Scene.source(3);
        Scene.update(x);
        check.due("state", x.state(1), 17);
        check.due("generation", x.generation(1), Scene.generation(2, 0));
        check.due("map", x.map(1), 0);
        TwinVolume y = Scene.source(3);
        y.copy(0);
        y.deliver(0);
        y.deliver(1);
        check.due("TARGET and TORN till FINISH", y.state(1), 85);
        check.due("generation till FINISH", y.generation(1), Scene.generation(1, 0));
        check.due("FINISH", y.deliver(0), 5);
        check.due("state", y.state(1), 17);
        check.due("nothing more", y.deliver(0), 0);
    }

    private static void endWithPendingWrites() {
        TwinVolume x = Scene.source(3);
        x.write(0, 3, 1);
        x.write(0, 3, 2);
        x.deliver(0);
        x.store(1, 0);
        x.deliver(1);
        check.due("END: state", x.state(0), 19);
        check.due("the ALONE write", x.fate(1), 2);
        check.due("the PENDING write", x.fate(3), 1);
        check.due("DATA was sent before FINISH", x.deliver(0), 1);
        x.cut();
        check.due("a break before FINISH: generation", x.generation(0), Scene.generation(3, 2));
        check.due("fate", x.fate(3), 3);
        check.due("acknowledged stays", x.fate(1), 2);
        check.due("TORN stays", x.state(1), 5);
        check.due("connect", x.connect(), 1);
        check.due("no common number", x.map(0), -1);
    }

    private static void finishTakesMarksOff() {
        TwinVolume x = Scene.alone(0);
        x.connect();
        x.write(0, 8, 3);
        x.crash(0);
        x.restart(0);
        x.promote(1);
        x.connect();
        check.due("TARGET, TORN and CRASHED", x.state(0), 93);
        check.due("map of the TARGET", x.map(0), 0xf00);
        Scene.update(x);
        check.due("all marks are off", x.state(0), 17);
        check.due("map", x.map(0), 0);
        check.due("generation", x.generation(0), Scene.generation(1, 0));
        check.due("disk", x.disk(0, 8), 0);
    }

    private static void inTheOrderOfSending() {
        TwinVolume x = Scene.source(0, 1, 2);
        x.copy(0);
        x.write(0, 30, 1);
        x.copy(0);
        check.due("first", x.deliver(0), 3);
        check.due("second", x.deliver(0), 1);
        x.store(1, 0);
        check.due("third", x.deliver(0), 3);
        check.due("first back", x.deliver(1), 4);
        check.due("second back", x.deliver(1), 2);
        check.due("third back", x.deliver(1), 4);
        check.due("map", x.map(0), Scene.blocks(2));
    }
}
