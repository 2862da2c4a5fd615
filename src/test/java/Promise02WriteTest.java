/** Promise 2: write. */
public final class Promise02WriteTest {
    private static final Check check = new Check("promise 2");

    public static void main(String[] args) {
        badNode();
        badBlock();
        down();
        secondary();
        fullOfEightPending();
        eightPendingTillAnAckArrives();
        eightPendingTillABreak();
        fullOfThreeHundred();
        threeHundredWhateverBecameOfThem();
        lastNumberOfALinkedNode();
        busy();
        busyWithAnotherPendingWrite();
        notBusyInTheLog();
        notBusyWithTwoExtents();
        badComesFirst();
        downComesSecond();
        secondaryComesThird();
        fullComesFourth();
        extentOfEachBlock();
        moveToTheFront();
        twoExtentsKeepTheirOrder();
        whichExtentGoes();
        pendingElsewhereInTheExtent();
        leastAndGreatestBlockAndValue();
        linkedWrite();
        writeOfASource();
        writeAlone();
        numbersGoOverBothNodes();
        refusedWriteTakesNoNumber();
        check.end();
    }

    private static void badNode() {
        for (int node : Scene.NO_NODES) {
            Twins.refused(check, "write at node " + node, () -> Scene.linked(0), x -> x.write(node, 0, 1),
                    TwinVolume.BAD);
            Twins.refused(check, "write at node " + node + ", alone", () -> Scene.alone(1), x -> x.write(node, 31, 1),
                    TwinVolume.BAD);
        }
    }

    private static void badBlock() {
        for (int block : Scene.NO_BLOCKS) {
            for (int node : Scene.NODES) {
                Twins.refused(check, "write to block " + block, () -> Scene.linked(node), x -> x.write(node, block, 1),
                        TwinVolume.BAD);
                Twins.refused(check, "write to block " + block + ", alone", () -> Scene.alone(node),
                        x -> x.write(node, block, 1), TwinVolume.BAD);
            }
        }
    }

    private static TwinVolume down(int node) {
        TwinVolume x = Scene.alone(node);
        x.write(node, 9, 1);
        x.crash(node);
        return x;
    }

    private static void down() {
        for (int node : Scene.NODES) {
            Twins.refused(check, "write at a node that is down", () -> down(node), x -> x.write(node, 0, 1),
                    TwinVolume.DOWN);
            TwinVolume x = down(1 - node);
            x.promote(node);
            check.due("write when the peer is down", x.write(node, 0, 1), 2);
        }
    }

    private static void secondary() {
        for (int node : Scene.NODES) {
            Twins.refused(check, "write at a secondary", () -> Scene.linked(1 - node), x -> x.write(node, 0, 1),
                    TwinVolume.SECONDARY);
            TwinVolume demoted = Scene.alone(node);
            demoted.demote(node);
            check.due("write after demote", demoted.write(node, 0, 1), TwinVolume.SECONDARY);
            TwinVolume risen = down(node);
            risen.restart(node);
            check.due("write after restart", risen.write(node, 0, 1), TwinVolume.SECONDARY);
        }
    }

    private static void fullOfEightPending() {
        for (int node : Scene.NODES) {
            TwinVolume x = Scene.pending(node, 0, 4, 8, 1, 5, 9, 2);
            check.due("an eighth PENDING write", x.write(node, 6, 1), 8);
            Twins.refused(check, "a ninth PENDING write", () -> Scene.eightPending(node), y -> y.write(node, 0, 1),
                    TwinVolume.FULL);
        }
    }

    private static void eightPendingTillAnAckArrives() {
        TwinVolume x = Scene.eightPending(1);
        x.deliver(1);
        check.due("with one that waits", x.write(1, 0, 9), TwinVolume.FULL);
        x.store(0, 0);
        check.due("with one whose ACK is on the way", x.write(1, 0, 9), TwinVolume.FULL);
        x.deliver(0);
        check.due("with seven PENDING", x.write(1, 0, 9), 9);
        check.due("with eight PENDING again", x.write(1, 0, 9), TwinVolume.FULL);
    }

    private static void eightPendingTillABreak() {
        TwinVolume cut = Scene.eightPending(0);
        cut.cut();
        check.due("after a break none is PENDING", cut.write(0, 0, 9), 9);
        TwinVolume crashed = Scene.eightPending(0);
        crashed.crash(0);
        crashed.restart(0);
        crashed.promote(0);
        check.due("after a crash none is PENDING", crashed.write(0, 0, 9), 9);
    }

    private static void fullOfThreeHundred() {
        TwinVolume x = Scene.manyAlone(298);
        check.due("write 299", x.write(1, 0, 1), 299);
        check.due("write 300", x.write(0, 0, 1), 300);
        check.due("fate(300)", x.fate(300), 3);
        for (int node : Scene.NODES) {
            Twins.refused(check, "write 301", () -> Scene.manyAlone(300), y -> y.write(node, 0, 1), TwinVolume.FULL);
        }
    }

    private static void threeHundredWhateverBecameOfThem() {
        TwinVolume x = Scene.manyAlone(300);
        x.crash(0);
        x.crash(1);
        x.restart(0);
        x.promote(0);
        check.due("a LOST write", x.fate(1), 4);
        check.due("LOST writes were accepted too", x.write(0, 0, 1), TwinVolume.FULL);
        x.restart(1);
        x.discard(1);
        x.connect();
        check.due("on a new link", x.write(0, 0, 1), TwinVolume.FULL);
    }

    private static void lastNumberOfALinkedNode() {
        TwinVolume x = Scene.manyAlone(299);
        x.demote(1);
        x.discard(1);
        x.connect();
        check.due("write 300", x.write(0, 31, -5), 300);
        check.due("write 301", x.write(0, 31, -6), TwinVolume.FULL);
        check.due("fate", x.fate(300), 1);
        check.due("DATA", x.deliver(0), 1);
        check.due("store", x.store(1, 0), 300);
        check.due("ACK", x.deliver(1), 2);
        check.due("fate", x.fate(300), 2);
        check.due("disk", x.disk(1, 31), -5);
        check.due("an ACKNOWLEDGED one was accepted too", x.write(0, 31, -6), TwinVolume.FULL);
    }

    private static void busy() {
        for (int node : Scene.NODES) {
            Twins.refused(check, "write to a fourth extent", () -> Scene.pending(node, 0, 4, 8),
                    x -> x.write(node, 12, 1), TwinVolume.BUSY);
            Twins.refused(check, "write to the greatest extent", () -> Scene.waiting(node, 3, 7, 11),
                    x -> x.write(node, 31, 1), TwinVolume.BUSY);
            Twins.refused(check, "write to the least extent", () -> Scene.waiting(node, 31, 27, 23),
                    x -> x.write(node, 0, 1), TwinVolume.BUSY);
            TwinVolume x = Scene.pending(node, 0, 4, 8);
            x.cut();
            check.due("none is PENDING after a break", x.write(node, 12, 1), 4);
        }
    }

    private static void busyWithAnotherPendingWrite() {
        TwinVolume x = Scene.waiting(0, 0, 4, 8, 3);
        x.store(1, 0);
        check.due("till the ACK has arrived", x.write(0, 12, 1), TwinVolume.BUSY);
        x.deliver(1);
        check.due("block 3 of extent 0 is PENDING still", x.write(0, 12, 1), TwinVolume.BUSY);
        x.store(1, 2);
        x.deliver(1);
        check.due("none in extent 0 is PENDING", x.write(0, 12, 1), 5);
        check.due("log", Scene.log(x, 0), "3,2,1");
    }

    private static void notBusyInTheLog() {
        for (int block : new int[] {1, 6, 11}) {
            TwinVolume x = Scene.pending(0, 0, 4, 8);
            check.due("write to an extent of the LOG", x.write(0, block, 1), 4);
            check.due("it is in front", x.log(0, 0), block / 4);
        }
    }

    private static void notBusyWithTwoExtents() {
        TwinVolume x = Scene.pending(0, 0, 4);
        check.due("a third extent", x.write(0, 31, 1), 3);
        check.due("log", Scene.log(x, 0), "7,1,0");
    }

    private static TwinVolume threeHundredAndBusy() {
        TwinVolume x = Scene.alone(0);
        for (int k = 0; k < 297; k++) {
            x.write(0, k % 12, k);
        }
        x.connect();
        x.write(0, 0, 1);
        x.write(0, 4, 1);
        x.write(0, 8, 1);
        return x;
    }

    private static void badComesFirst() {
        Twins.refused(check, "BAD and DOWN", () -> down(0), x -> x.write(0, 32, 1), TwinVolume.BAD);
        Twins.refused(check, "BAD and SECONDARY", () -> Scene.linked(0), x -> x.write(1, -1, 1), TwinVolume.BAD);
        Twins.refused(check, "BAD and FULL of 8", () -> Scene.eightPending(0), x -> x.write(0, 32, 1), TwinVolume.BAD);
        Twins.refused(check, "BAD and FULL of 300", () -> Scene.manyAlone(300), x -> x.write(0, -1, 1),
                TwinVolume.BAD);
        Twins.refused(check, "BAD node and FULL of 300", () -> Scene.manyAlone(300), x -> x.write(2, 0, 1),
                TwinVolume.BAD);
        Twins.refused(check, "BAD and BUSY", () -> Scene.pending(0, 0, 4, 8), x -> x.write(0, 32, 1), TwinVolume.BAD);
    }

    private static void downComesSecond() {
        TwinVolume x = Scene.manyAlone(300);
        x.crash(1);
        check.due("DOWN and FULL of 300", x.write(1, 0, 1), TwinVolume.DOWN);
    }

    private static void secondaryComesThird() {
        TwinVolume x = Scene.manyAlone(300);
        x.demote(0);
        check.due("SECONDARY and FULL of 300", x.write(0, 0, 1), TwinVolume.SECONDARY);
    }

    private static void fullComesFourth() {
        Twins.refused(check, "FULL of 8 and BUSY", () -> Scene.eightPending(1), x -> x.write(1, 31, 9),
                TwinVolume.FULL);
        Twins.refused(check, "FULL of 300 and BUSY", Promise02WriteTest::threeHundredAndBusy, x -> x.write(0, 12, 1),
                TwinVolume.FULL);
    }

    private static void extentOfEachBlock() {
        int[] extents = {
            0, 0, 0, 0, 1, 1, 1, 1, 2, 2, 2, 2, 3, 3, 3, 3, 4, 4, 4, 4, 5, 5, 5, 5, 6, 6, 6, 6, 7, 7, 7, 7};
        for (int node : Scene.NODES) {
            for (int block = 0; block < 32; block++) {
                TwinVolume x = Scene.alone(node);
                x.write(node, block, 1);
                check.due("extent of block " + block, Scene.log(x, node), extents[block] + ",-1,-1");
            }
        }
    }

    private static void moveToTheFront() {
        TwinVolume x = Scene.alone(0);
        x.write(0, 0, 1);
        x.write(0, 7, 1);
        x.write(0, 8, 1);
        check.due("log", Scene.log(x, 0), "2,1,0");
        x.write(0, 4, 1);
        check.due("an extent from the middle", Scene.log(x, 0), "1,2,0");
        x.write(0, 3, 1);
        check.due("an extent from the end", Scene.log(x, 0), "0,1,2");
        x.write(0, 2, 1);
        check.due("an extent from the front", Scene.log(x, 0), "0,1,2");
        x.write(0, 12, 1);
        check.due("the last one goes", Scene.log(x, 0), "3,0,1");
        check.due("never more than three", x.log(0, 3), -1);
    }

    private static void twoExtentsKeepTheirOrder() {
        TwinVolume x = Scene.alone(1);
        x.write(1, 31, 1);
        check.due("one extent", Scene.log(x, 1), "7,-1,-1");
        x.write(1, 28, 1);
        check.due("the same extent", Scene.log(x, 1), "7,-1,-1");
        x.write(1, 0, 1);
        check.due("two extents", Scene.log(x, 1), "0,7,-1");
        x.write(1, 30, 1);
        check.due("the last of two to the front", Scene.log(x, 1), "7,0,-1");
    }

    /** The LOG is 7, 1, 0; each time another choice of these has PENDING writes. */
    private static void whichExtentGoes() {
        checkGoes("none is PENDING", "4,7,1", 0, 1, 2);
        checkGoes("0 is PENDING", "4,7,0", 1, 2);
        checkGoes("1 is PENDING", "4,7,1", 0, 2);
        checkGoes("0 and 1 are PENDING", "4,1,0", 2);
        checkGoes("7 is PENDING", "4,7,1", 0, 1);
        checkGoes("0 and 7 are PENDING", "4,7,0", 1);
        checkGoes("1 and 7 are PENDING", "4,7,1", 0);
        checkGoes("all are PENDING", "7,1,0");
    }

    private static void checkGoes(String what, String log, int... acknowledged) {
        for (int node : Scene.NODES) {
            TwinVolume x = Scene.waiting(node, 0, 4, 31);
            int gone = 0;
            for (int place : acknowledged) {
                x.store(1 - node, place - gone);
                x.deliver(1 - node);
                gone++;
            }
            check.due(what, x.write(node, 16, 1), gone == 0 ? TwinVolume.BUSY : 4);
            check.due(what + ": log", Scene.log(x, node), log);
        }
    }

    private static void pendingElsewhereInTheExtent() {
        TwinVolume x = Scene.waiting(0, 0, 4, 31, 2);
        x.store(1, 0);
        x.store(1, 0);
        x.store(1, 0);
        Scene.deliverAll(x, 1);
        check.due("log", Scene.log(x, 0), "0,7,1");
        x.write(0, 16, 1);
        x.write(0, 20, 1);
        check.due("extent 0 stays for its block 2", Scene.log(x, 0), "5,4,0");
    }

    private static void leastAndGreatestBlockAndValue() {
        int[] values = {0, -1, Integer.MIN_VALUE, Integer.MAX_VALUE};
        for (int node : Scene.NODES) {
            for (int block : new int[] {0, 31}) {
                TwinVolume x = Scene.linked(node);
                for (int value : values) {
                    x.write(node, block, value);
                    check.due("own disk", x.disk(node, block), value);
                    Scene.settle(x);
                    check.due("the peer's disk", x.disk(1 - node, block), value);
                }
                check.due("no other block", x.disk(node, 31 - block), 0);
            }
        }
    }

    private static void linkedWrite() {
        for (int node : Scene.NODES) {
            TwinVolume x = Scene.linked(node);
            check.due("write", x.write(node, 31, -9), 1);
            check.due("own disk", x.disk(node, 31), -9);
            check.due("peer's disk", x.disk(1 - node, 31), 0);
            check.due("fate", x.fate(1), 1);
            check.due("traffic", x.traffic(node), 1);
            check.due("traffic of the peer", x.traffic(1 - node), 0);
            check.due("map", x.map(node), 0);
            check.due("generation", x.generation(node), Scene.generation(1, 0));
            check.due("log", Scene.log(x, node), "7,-1,-1");
            check.due("log of the peer", Scene.log(x, 1 - node), "-1,-1,-1");
        }
    }

    private static void writeOfASource() {
        TwinVolume x = Scene.source(3);
        check.due("write", x.write(0, 20, 5), 2);
        check.due("fate", x.fate(2), 1);
        check.due("a PENDING block does not join the MAP", x.map(0), Scene.blocks(3));
        check.due("generation", x.generation(0), Scene.generation(2, 1));
        check.due("DATA", x.deliver(0), 1);
    }

    private static void writeAlone() {
        TwinVolume x = Scene.alone(1);
        check.due("write", x.write(1, 0, 5), 1);
        check.due("fate", x.fate(1), 3);
        check.due("map", x.map(1), Scene.blocks(0));
        check.due("BASE was 0", x.generation(1), Scene.generation(2, 1));
        check.due("traffic", x.traffic(1), 0);
        check.due("write", x.write(1, 31, 6), 2);
        check.due("map", x.map(1), Scene.blocks(0, 31));
        check.due("BASE was not 0", x.generation(1), Scene.generation(2, 1));
        check.due("peer's generation", x.generation(0), Scene.generation(1, 0));
        check.due("peer's map", x.map(0), 0);
        check.due("peer's disk", x.disk(0, 0), 0);
    }

    private static void numbersGoOverBothNodes() {
        TwinVolume x = Scene.alone(0);
        x.promote(1);
        check.due("write", x.write(0, 0, 1), 1);
        check.due("write", x.write(1, 0, 2), 2);
        check.due("write", x.write(1, 0, 3), 3);
        check.due("write", x.write(0, 0, 4), 4);
        check.due("disk", x.disk(0, 0), 4);
        check.due("disk", x.disk(1, 0), 3);
        check.due("generation", x.generation(0), Scene.generation(2, 1));
        check.due("a later fresh number", x.generation(1), Scene.generation(3, 1));
    }

    private static void refusedWriteTakesNoNumber() {
        TwinVolume x = Scene.pending(0, 0, 4, 8);
        check.due("BAD", x.write(0, 32, 1), TwinVolume.BAD);
        check.due("SECONDARY", x.write(1, 0, 1), TwinVolume.SECONDARY);
        check.due("BUSY", x.write(0, 12, 1), TwinVolume.BUSY);
        check.due("no write of that number", x.fate(4), 0);
        check.due("the next number", x.write(0, 9, 1), 4);
    }
}
