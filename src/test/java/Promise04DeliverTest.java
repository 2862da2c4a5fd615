/** Promise 4: deliver, and what happens at each arrival. */
public final class Promise04DeliverTest {
    private static final Check check = new Check("promise 4");

    public static void main(String[] args) {
        badNode();
        noneOnTheWay();
        noneWhenNotLinked();
        oneAtATime();
        inTheOrderOfSending();
        twelveBothWaysManyTimes();
        data();
        ack();
        ackAtANodeThatIsNotSource();
        ackOfABlockInTheMap();
        ackOfABlockThatIsNotInTheMap();
        ackOfTheLastBlockInTheMap();
        ackAfterTheEnd();
        copyOfLeastAndGreatest();
        copied();
        copiedOfTheLastBlock();
        endWithAPendingWrite();
        endTakesCrashedOff();
        endAndTheFatesOfWrites();
        finishTillItArrives();
        finish();
        finishTakesCrashedOff();
        finishLeavesTheLog();
        finishThatIsGone();
        check.end();
    }

    private static TwinVolume bothWays() {
        TwinVolume x = Scene.source(3, 9);
        x.copy(0);
        x.copy(0);
        x.write(0, 20, 4);
        x.deliver(0);
        return x;
    }

    private static void badNode() {
        for (int node : Scene.NO_NODES) {
            Twins.refused(check, "deliver from node " + node, Promise04DeliverTest::bothWays, x -> x.deliver(node), 0);
        }
    }

    private static void noneOnTheWay() {
        for (int node : Scene.NODES) {
            Twins.refused(check, "deliver of nothing", () -> Scene.linked(0), x -> x.deliver(node), 0);
            Twins.refused(check, "deliver from the peer", () -> Scene.pending(1 - node, 0), x -> x.deliver(node), 0);
            Twins.refused(check, "deliver of what arrived", () -> Scene.waiting(node, 0), x -> x.deliver(node), 0);
        }
    }

    private static void noneWhenNotLinked() {
        for (int node : Scene.NODES) {
            Twins.refused(check, "deliver on a new object", TwinVolume::new, x -> x.deliver(node), 0);
            Twins.refused(check, "deliver after a break", () -> broken(-1), x -> x.deliver(node), 0);
            Twins.refused(check, "deliver after a crash", () -> broken(0), x -> x.deliver(node), 0);
            Twins.refused(check, "deliver after the peer's crash", () -> broken(1), x -> x.deliver(node), 0);
        }
    }

    private static TwinVolume broken(int fallen) {
        TwinVolume x = bothWays();
        if (!x.crash(fallen)) {
            x.cut();
        }
        return x;
    }

    private static void oneAtATime() {
        for (int node : Scene.NODES) {
            TwinVolume x = Scene.pending(node, 0, 1, 2);
            for (int k = 1; k <= 3; k++) {
                check.due("DATA", x.deliver(node), 1);
                check.due("on the way", x.traffic(node), 3 - k);
                check.due("waiting", x.traffic(1 - node), 100 * k);
            }
            check.due("no more", x.deliver(node), 0);
        }
    }

    private static void inTheOrderOfSending() {
        for (int node : Scene.NODES) {
            TwinVolume x = Scene.sourceAt(node, 0, 1, 2);
            x.copy(node);
            x.write(node, 30, 1);
            x.copy(node);
            check.due("first", x.deliver(node), 3);
            check.due("second", x.deliver(node), 1);
            x.store(1 - node, 0);
            check.due("third", x.deliver(node), 3);
            check.due("first back", x.deliver(1 - node), 4);
            check.due("second back", x.deliver(1 - node), 2);
            check.due("third back", x.deliver(1 - node), 4);
            check.due("map", x.map(node), Scene.blocks(2));
        }
    }

    /** No more than 12 can be on the way at once; 72 go each way, so that room for messages is used again. */
    private static void twelveBothWaysManyTimes() {
        TwinVolume x = new TwinVolume();
        x.discard(1);
        x.promote(0);
        x.connect();
        for (int round = 0; round < 6; round++) {
            for (int k = 0; k < 4; k++) {
                check.due("COPY is sent", x.copy(0), 4 * round + k);
            }
            for (int k = 0; k < 8; k++) {
                check.due("DATA is sent", x.write(0, 24 + k, 1000 * round + k), 8 * round + k + 1);
            }
            check.due("traffic there", x.traffic(0), 40012);
            for (int k = 0; k < 12; k++) {
                check.due("arrival there", x.deliver(0), k < 4 ? 3 : 1);
            }
            for (int k = 7; k >= 0; k--) {
                check.due("store", x.store(1, k), 8 * round + k + 1);
            }
            check.due("traffic back", x.traffic(1), 12);
            for (int k = 0; k < 12; k++) {
                check.due("arrival back", x.deliver(1), k < 4 ? 4 : 2);
            }
            check.due("the last of its fates", x.fate(8 * round + 1), 2);
            check.due("disk", x.disk(1, 24), 1000 * round);
        }
        check.due("map: DATA has brought the last blocks", x.map(0), 0);
        check.due("END has been", x.state(0), 19);
    }

    private static void data() {
        for (int node : Scene.NODES) {
            TwinVolume x = Scene.pending(node, 0);
            check.due("DATA", x.deliver(node), 1);
            check.due("it is on the way no longer", x.traffic(node), 0);
            check.due("it waits", x.traffic(1 - node), 100);
            check.due("it is not on the disk yet", x.disk(1 - node, 0), 0);
            check.due("fate", x.fate(1), 1);
        }
        TwinVolume y = Scene.pending(0, 5, 6);
        y.deliver(0);
        y.deliver(0);
        check.due("it is put at the end", y.store(1, 1), 2);
    }

    private static void ack() {
        for (int node : Scene.NODES) {
            TwinVolume x = Scene.waiting(node, 0, 31);
            x.store(1 - node, 1);
            check.due("PENDING till the ACK arrives", x.fate(2), 1);
            check.due("ACK", x.deliver(1 - node), 2);
            check.due("ACKNOWLEDGED", x.fate(2), 2);
            check.due("no other write", x.fate(1), 1);
        }
    }

    private static void ackAtANodeThatIsNotSource() {
        TwinVolume x = Scene.waiting(1, 0);
        x.store(0, 0);
        x.deliver(0);
        check.due("no END though the MAP is empty", x.traffic(1), 0);
        check.due("state", x.state(1), 19);
    }

    private static void ackOfABlockInTheMap() {
        for (int node : Scene.NODES) {
            TwinVolume x = Scene.sourceAt(node, 3, 9);
            writeThrough(x, node, 3);
            check.due("the block leaves the MAP", x.map(node), Scene.blocks(9));
            check.due("still SOURCE", x.state(node), 51);
            check.due("no END", x.traffic(node), 0);
            check.due("ALONE till END", x.fate(1), 3);
        }
    }

    private static void writeThrough(TwinVolume x, int node, int block) {
        x.write(node, block, 5);
        x.deliver(node);
        x.store(1 - node, 0);
        check.due("ACK", x.deliver(1 - node), 2);
    }

    private static void ackOfABlockThatIsNotInTheMap() {
        for (int node : Scene.NODES) {
            TwinVolume x = Scene.sourceAt(node, 3);
            writeThrough(x, node, 4);
            check.due("the MAP stays", x.map(node), Scene.blocks(3));
            check.due("still SOURCE", x.state(node), 51);
            check.due("no END", x.traffic(node), 0);
            check.due("fate", x.fate(2), 2);
        }
    }

    private static void ackOfTheLastBlockInTheMap() {
        for (int node : Scene.NODES) {
            for (int block : new int[] {0, 31}) {
                TwinVolume x = Scene.sourceAt(node, block);
                writeThrough(x, node, block);
                checkEnd(x, node);
            }
        }
    }

    private static void checkEnd(TwinVolume x, int node) {
        check.due("map", x.map(node), 0);
        check.due("END: SOURCE no longer", x.state(node), 19);
        check.due("END: BASE is 0", x.generation(node), Scene.generation(2, 0));
        check.due("END: the ALONE write", x.fate(1), 2);
        check.due("END: FINISH is on the way, none under way", x.traffic(node), 1);
        check.due("FINISH", x.deliver(node), 5);
        check.due("FINISH has its CURRENT", x.generation(1 - node), Scene.generation(2, 0));
    }

    private static void ackAfterTheEnd() {
        for (int node : Scene.NODES) {
            TwinVolume x = Scene.sourceAt(node, 3);
            x.copy(node);
            x.write(node, 3, 5);
            x.deliver(node);
            x.deliver(node);
            x.store(1 - node, 0);
            check.due("COPIED", x.deliver(1 - node), 4);
            check.due("FINISH is on the way", x.traffic(node), 1);
            check.due("ACK", x.deliver(1 - node), 2);
            check.due("END happens once", x.traffic(node), 1);
            check.due("fate", x.fate(2), 2);
            check.due("FINISH", x.deliver(node), 5);
            check.due("one FINISH", x.deliver(node), 0);
        }
    }

    private static void copyOfLeastAndGreatest() {
        for (int node : Scene.NODES) {
            TwinVolume x = Scene.alone(node);
            x.write(node, 0, Integer.MIN_VALUE);
            x.write(node, 31, Integer.MAX_VALUE);
            x.connect();
            x.copy(node);
            x.copy(node);
            check.due("COPY", x.deliver(node), 3);
            check.due("disk", x.disk(1 - node, 0), Integer.MIN_VALUE);
            check.due("the other one is on the way", x.disk(1 - node, 31), 0);
            check.due("COPIED is sent back", x.traffic(1 - node), 1);
            check.due("COPY", x.deliver(node), 3);
            check.due("disk", x.disk(1 - node, 31), Integer.MAX_VALUE);
            check.due("COPIED is sent back", x.traffic(1 - node), 2);
            check.due("the LOG of the TARGET", Scene.log(x, 1 - node), "-1,-1,-1");
        }
    }

    private static void copied() {
        for (int node : Scene.NODES) {
            TwinVolume x = Scene.sourceAt(node, 3, 31);
            x.copy(node);
            x.copy(node);
            x.deliver(node);
            check.due("under way till COPIED arrives", x.traffic(node), 20001);
            check.due("in the MAP till COPIED arrives", x.map(node), Scene.blocks(3, 31));
            check.due("COPIED", x.deliver(1 - node), 4);
            check.due("under way no longer", x.traffic(node), 10001);
            check.due("in the MAP no longer", x.map(node), Scene.blocks(31));
            check.due("SOURCE still", x.state(node), 51);
            check.due("generation", x.generation(node), Scene.generation(2, 1));
            check.due("fate", x.fate(1), 3);
        }
    }

    private static void copiedOfTheLastBlock() {
        for (int node : Scene.NODES) {
            for (int block : new int[] {0, 31}) {
                TwinVolume x = Scene.sourceAt(node, block);
                x.copy(node);
                x.deliver(node);
                check.due("COPIED", x.deliver(1 - node), 4);
                checkEnd(x, node);
            }
        }
    }

    private static void endWithAPendingWrite() {
        for (int node : Scene.NODES) {
            TwinVolume x = Scene.sourceAt(node, 3);
            x.write(node, 3, 1);
            x.write(node, 3, 2);
            x.deliver(node);
            x.store(1 - node, 0);
            x.deliver(1 - node);
            check.due("END: state", x.state(node), 19);
            check.due("the ALONE write", x.fate(1), 2);
            check.due("the PENDING write", x.fate(3), 1);
            check.due("DATA was sent before FINISH", x.deliver(node), 1);
            check.due("FINISH", x.deliver(node), 5);
            check.due("the write waits still", x.traffic(1 - node), 100);
            check.due("store", x.store(1 - node, 0), 3);
        }
    }

    private static void endTakesCrashedOff() {
        for (int node : Scene.NODES) {
            TwinVolume x = Scene.pending(node, 9);
            x.crash(node);
            x.restart(node);
            x.promote(node);
            x.connect();
            check.due("CRASHED till END", x.state(node), 59);
            for (int k = 0; k < 4; k++) {
                x.copy(node);
            }
            Scene.deliverAll(x, node);
            Scene.deliverAll(x, 1 - node);
            check.due("CRASHED no longer, PRIMARY still", x.state(node), 19);
        }
    }

    private static void endAndTheFatesOfWrites() {
        for (int node : Scene.NODES) {
            TwinVolume x = Scene.pending(node, 9);
            Scene.settle(x);
            x.cut();
            x.write(node, 10, 1);
            x.crash(node);
            x.restart(node);
            x.promote(node);
            x.write(node, 11, 1);
            x.write(node, 12, 1);
            x.connect();
            x.write(node, 30, 1);
            for (int write = 1; write <= 5; write++) {
                check.due("fate of write " + write + " before", x.fate(write), new int[] {2, 4, 3, 3, 1}[write - 1]);
            }
            for (int round = 0; round < 2; round++) {
                for (int k = 0; k < 4; k++) {
                    x.copy(node);
                }
                Scene.deliverAll(x, node);
                Scene.deliverAll(x, 1 - node);
            }
            check.due("END", x.state(node), 19);
            for (int write = 1; write <= 5; write++) {
                check.due("fate of write " + write + " after", x.fate(write), new int[] {2, 4, 2, 2, 1}[write - 1]);
            }
        }
    }

    private static void finishTillItArrives() {
        for (int node : Scene.NODES) {
            TwinVolume x = Scene.finishingAt(node);
            check.due("TARGET and TORN", x.state(1 - node), 85);
            check.due("generation", x.generation(1 - node), Scene.generation(1, 0));
            check.due("promote", x.promote(1 - node), TwinVolume.UNSOUND);
        }
    }

    private static void finish() {
        for (int node : Scene.NODES) {
            TwinVolume x = Scene.finishingAt(node);
            check.due("FINISH", x.deliver(node), 5);
            check.due("state", x.state(1 - node), 17);
            check.due("generation", x.generation(1 - node), Scene.generation(2, 0));
            check.due("generation of the SOURCE", x.generation(node), Scene.generation(2, 0));
            check.due("map", x.map(1 - node), 0);
            check.due("nothing is sent back", x.traffic(1 - node), 0);
            x.cut();
            check.due("the nodes are one again", x.connect(), 0);
        }
    }

    private static void finishTakesCrashedOff() {
        for (int node : Scene.NODES) {
            TwinVolume x = Scene.pending(node, 8);
            x.crash(node);
            x.restart(node);
            x.promote(1 - node);
            x.connect();
            check.due("TARGET, TORN and CRASHED", x.state(node), 93);
            check.due("map of the TARGET", x.map(node), 0xf00);
            Scene.update(x);
            check.due("all marks are off", x.state(node), 17);
            check.due("its MAP is empty", x.map(node), 0);
            check.due("generation", x.generation(node), Scene.generation(1, 0));
            check.due("disk", x.disk(node, 8), 0);
        }
    }

    private static void finishLeavesTheLog() {
        for (int node : Scene.NODES) {
            TwinVolume x = Scene.pending(1 - node, 31, 9);
            Scene.settle(x);
            x.demote(1 - node);
            x.cut();
            x.promote(node);
            x.write(node, 3, 1);
            x.connect();
            Scene.update(x);
            check.due("state of the TARGET", x.state(1 - node), 17);
            check.due("its LOG stays", Scene.log(x, 1 - node), "2,7,-1");
            check.due("the LOG of the SOURCE", Scene.log(x, node), "0,-1,-1");
        }
    }

    private static void finishThatIsGone() {
        for (int node : Scene.NODES) {
            TwinVolume x = Scene.finishingAt(node);
            x.write(node, 3, 2);
            x.cut();
            check.due("BASE was 0 again after END", x.generation(node), Scene.generation(3, 2));
            check.due("fate of what was PENDING", x.fate(2), 3);
            check.due("acknowledged stays", x.fate(1), 2);
            check.due("TORN stays", x.state(1 - node), 5);
            check.due("generation of the peer stays", x.generation(1 - node), Scene.generation(1, 0));
            check.due("connect", x.connect(), 1 + node);
            check.due("no common number", x.map(node), -1);
        }
    }
}
