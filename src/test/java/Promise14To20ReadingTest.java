/** Promises 14 to 20: disk, fate, state, generation, map, log and traffic. */
public final class Promise14To20ReadingTest {
    private static final Check check = new Check("promises 14 to 20");

    public static void main(String[] args) {
        badNode();
        badBlockOfADisk();
        diskOfEachBlock();
        diskOfLeastAndGreatestValue();
        diskOfANodeThatIsDown();
        noWriteOfThatNumber();
        eachFate();
        fatesOfThreeHundred();
        stateOfEachMark();
        stateOfBothInAnUpdate();
        generationOfEachNode();
        mapOfEachBlock();
        noPlaceInTheLog();
        logOfEachPlace();
        trafficOnTheWay();
        trafficOfWritesThatWait();
        trafficOfBlocksUnderWay();
        trafficOfAll();
        check.end();
    }

    /** Every reading call has something to tell of both nodes. */
    private static TwinVolume busyObject() {
        TwinVolume x = Scene.pending(1, 3, 31);
        Scene.settle(x);
        x.crash(1);
        x.restart(1);
        x.promote(0);
        x.write(0, 3, 5);
        x.write(0, 9, 6);
        x.connect();
        x.copy(0);
        x.deliver(0);
        x.copy(0);
        x.write(0, 20, 4);
        x.deliver(0);
        x.deliver(0);
        return x;
    }

    private static void badNode() {
        for (int node : Scene.NO_NODES) {
            String of = " of node " + node;
            Twins.refused(check, "disk" + of, Promise14To20ReadingTest::busyObject, x -> x.disk(node, 3), 0);
            Twins.refused(check, "state" + of, Promise14To20ReadingTest::busyObject, x -> x.state(node), -1);
            Twins.refused(check, "generation" + of, Promise14To20ReadingTest::busyObject, x -> x.generation(node), 0);
            Twins.refused(check, "map" + of, Promise14To20ReadingTest::busyObject, x -> x.map(node), 0);
            Twins.refused(check, "log" + of, Promise14To20ReadingTest::busyObject, x -> x.log(node, 0), -1);
            Twins.refused(check, "traffic" + of, Promise14To20ReadingTest::busyObject, x -> x.traffic(node), 0);
        }
    }

    private static void badBlockOfADisk() {
        for (int block : Scene.NO_BLOCKS) {
            for (int node : Scene.NODES) {
                Twins.refused(check, "disk of block " + block, Promise14To20ReadingTest::everyBlockWritten,
                        x -> x.disk(node, block), 0);
            }
            for (int node : Scene.NO_NODES) {
                check.due("disk of neither node nor block", everyBlockWritten().disk(node, block), 0);
            }
        }
    }

    private static TwinVolume everyBlockWritten() {
        TwinVolume x = Scene.alone(0);
        x.promote(1);
        for (int block = 0; block < 32; block++) {
            x.write(0, block, 1000 + block);
            x.write(1, block, -1000 - block);
        }
        return x;
    }

    private static void diskOfEachBlock() {
        TwinVolume x = everyBlockWritten();
        for (int block = 0; block < 32; block++) {
            check.due("disk of node 0", x.disk(0, block), 1000 + block);
            check.due("disk of node 1", x.disk(1, block), -1000 - block);
        }
    }

    private static void diskOfLeastAndGreatestValue() {
        TwinVolume x = Scene.alone(0);
        x.write(0, 0, Integer.MIN_VALUE);
        x.write(0, 31, Integer.MAX_VALUE);
        check.due("disk", x.disk(0, 0), Integer.MIN_VALUE);
        check.due("disk", x.disk(0, 31), Integer.MAX_VALUE);
        x.write(0, 31, 0);
        check.due("disk", x.disk(0, 31), 0);
    }

    private static void diskOfANodeThatIsDown() {
        TwinVolume x = everyBlockWritten();
        x.crash(0);
        check.due("disk", x.disk(0, 31), 1031);
    }

    private static void noWriteOfThatNumber() {
        int[] numbers = {0, -1, 3, 300, 301, Integer.MIN_VALUE, Integer.MAX_VALUE};
        for (int number : numbers) {
            Twins.refused(check, "fate of write " + number, () -> Scene.pending(0, 3, 4), x -> x.fate(number), 0);
        }
        int[] beyond = {0, -1, 301, 302, Integer.MIN_VALUE, Integer.MAX_VALUE};
        for (int number : beyond) {
            Twins.refused(check, "fate of write " + number, () -> Scene.manyAlone(300), x -> x.fate(number), 0);
        }
    }

    private static void eachFate() {
        TwinVolume x = Scene.pending(0, 0);
        check.due("PENDING", x.fate(1), 1);
        Scene.settle(x);
        check.due("ACKNOWLEDGED", x.fate(1), 2);
        x.cut();
        x.write(0, 1, 1);
        check.due("ALONE", x.fate(2), 3);
        x.crash(0);
        check.due("LOST", x.fate(2), 4);
        check.due("ACKNOWLEDGED stays", x.fate(1), 2);
    }

    private static void fatesOfThreeHundred() {
        TwinVolume x = Scene.manyAlone(300);
        x.crash(1);
        for (int number : new int[] {1, 2, 150, 151, 299, 300}) {
            check.due("fate of write " + number, x.fate(number), number % 2 == 1 ? 4 : 3);
        }
    }

    private static void stateOfEachMark() {
        for (int node : Scene.NODES) {
            TwinVolume x = Scene.linked(node);
            check.due("up, PRIMARY, linked", x.state(node), 1 + 2 + 16);
            check.due("up, linked", x.state(1 - node), 1 + 16);
            x.cut();
            check.due("up, PRIMARY", x.state(node), 1 + 2);
            x.crash(node);
            check.due("CRASHED", x.state(node), 8);
            x.restart(node);
            check.due("up, CRASHED", x.state(node), 1 + 8);
            x.crash(1 - node);
            check.due("none", x.state(1 - node), 0);
            x.discard(node);
            check.due("up, TORN", x.state(node), 1 + 4);
            x.crash(node);
            check.due("TORN", x.state(node), 4);
        }
    }

    private static void stateOfBothInAnUpdate() {
        for (int node : Scene.NODES) {
            TwinVolume x = Scene.pending(node, 9);
            x.crash(node);
            x.restart(node);
            x.promote(node);
            x.connect();
            check.due("up, PRIMARY, CRASHED, linked, SOURCE", x.state(node), 1 + 2 + 8 + 16 + 32);
            check.due("up, TORN, linked, TARGET", x.state(1 - node), 1 + 4 + 16 + 64);
            x.cut();
            check.due("up, PRIMARY, CRASHED", x.state(node), 1 + 2 + 8);
            check.due("up, TORN", x.state(1 - node), 1 + 4);
        }
    }

    private static void generationOfEachNode() {
        TwinVolume x = Scene.alone(0);
        check.due("CURRENT 1, BASE 0", x.generation(0), 4294967296L);
        x.write(0, 0, 1);
        check.due("CURRENT 2, BASE 1", x.generation(0), 8589934593L);
        x.promote(1);
        x.write(1, 0, 1);
        check.due("CURRENT 3, BASE 1", x.generation(1), 12884901889L);
        check.due("CURRENT 2, BASE 1", x.generation(0), 8589934593L);
        x.demote(0);
        x.discard(0);
        check.due("CURRENT 0, BASE 0", x.generation(0), 0L);
    }

    private static void mapOfEachBlock() {
        for (int node : Scene.NODES) {
            for (int block = 0; block < 32; block++) {
                TwinVolume x = Scene.alone(node);
                x.write(node, block, 1);
                check.due("map of block " + block, x.map(node), 1 << block);
                check.due("map of the peer", x.map(1 - node), 0);
            }
        }
        check.due("all blocks", everyBlockWritten().map(0), -1);
        TwinVolume y = Scene.alone(0);
        y.write(0, 31, 1);
        check.due("block 31 alone", y.map(0), Integer.MIN_VALUE);
    }

    private static TwinVolume logOf(int... blocks) {
        TwinVolume x = Scene.alone(0);
        for (int block : blocks) {
            x.write(0, block, 1);
        }
        return x;
    }

    private static void noPlaceInTheLog() {
        int[] never = {-1, 3, 4, Integer.MIN_VALUE, Integer.MAX_VALUE};
        for (int k : never) {
            Twins.refused(check, "place " + k + " of a full LOG", () -> logOf(0, 31, 4, 8), x -> x.log(0, k), -1);
            Twins.refused(check, "place " + k + " of an empty LOG", TwinVolume::new, x -> x.log(0, k), -1);
            for (int node : Scene.NO_NODES) {
                check.due("place " + k + " of no node", logOf(0, 31, 4).log(node, k), -1);
            }
        }
        check.due("place 0 of an empty LOG", logOf(0).log(1, 0), -1);
        check.due("place 1 of a LOG of one", logOf(0).log(0, 1), -1);
        check.due("place 2 of a LOG of two", logOf(0, 31).log(0, 2), -1);
    }

    private static void logOfEachPlace() {
        TwinVolume x = logOf(0, 31, 4);
        check.due("the front", x.log(0, 0), 1);
        check.due("the middle", x.log(0, 1), 7);
        check.due("the end", x.log(0, 2), 0);
        x.crash(0);
        check.due("of a node that is down", x.log(0, 2), 0);
    }

    private static void trafficOnTheWay() {
        for (int node : Scene.NODES) {
            TwinVolume x = Scene.linked(node);
            for (int k = 1; k <= 8; k++) {
                x.write(node, k, 1);
                check.due("messages", x.traffic(node), k);
                check.due("messages from the peer", x.traffic(1 - node), 0);
            }
        }
    }

    private static void trafficOfWritesThatWait() {
        TwinVolume x = Scene.waiting(0, 0, 1, 2, 3, 4, 5, 6, 7);
        check.due("eight wait", x.traffic(1), 800);
        check.due("they wait at the other node", x.traffic(0), 0);
        x.store(1, 0);
        check.due("seven wait, one ACK", x.traffic(1), 701);
        x.deliver(1);
        check.due("seven wait", x.traffic(1), 700);
    }

    private static void trafficOfBlocksUnderWay() {
        TwinVolume x = Scene.source(0, 1, 2, 3, 31);
        for (int k = 1; k <= 4; k++) {
            x.copy(0);
            check.due("under way and on the way", x.traffic(0), 10001 * k);
        }
        check.due("none is under way from the TARGET", x.traffic(1), 0);
        x.deliver(0);
        check.due("four under way, three on the way", x.traffic(0), 40003);
        check.due("COPIED", x.traffic(1), 1);
        x.deliver(1);
        check.due("three under way", x.traffic(0), 30003);
    }

    private static void trafficOfAll() {
        TwinVolume x = busyObject();
        check.due("traffic of the SOURCE", x.traffic(0), 20000);
        check.due("traffic of the TARGET", x.traffic(1), 102);
        x.deliver(1);
        check.due("traffic of the SOURCE", x.traffic(0), 10000);
        check.due("traffic of the TARGET", x.traffic(1), 101);
        x.write(0, 21, 4);
        check.due("traffic of the SOURCE", x.traffic(0), 10001);
    }
}
