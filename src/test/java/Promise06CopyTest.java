/** Promise 6: copy. */
public final class Promise06CopyTest {
    private static final Check check = new Check("promise 6");

    public static void main(String[] args) {
        refused();
        leastBlockFirst();
        fourUnderWay();
        pendingBlocksAreLeftOut();
        valueOfTheMoment();
        writeWhileUnderWay();
        check.end();
    }

    private static void refused() {
        TwinVolume x = Scene.source(3);
        String before = Scene.all(x);
        for (int node : Scene.NO_NODES) {
            check.due("copy at no node", x.copy(node), -1);
        }
        check.due("copy at the TARGET", x.copy(1), -1);
        check.due("after refusals", Scene.all(x), before);
        x.cut();
        check.due("copy when not linked", x.copy(0), -1);
        TwinVolume y = Scene.linked(0);
        check.due("copy when none is SOURCE", y.copy(0), -1);
    }

    private static void leastBlockFirst() {
        TwinVolume x = Scene.source(31, 5, 30);
        check.due("copy", x.copy(0), 5);
        check.due("traffic", x.traffic(0), 10001);
        check.due("copy", x.copy(0), 30);
        check.due("copy", x.copy(0), 31);
        check.due("traffic", x.traffic(0), 30003);
        String before = Scene.all(x);
        check.due("no block is left", x.copy(0), -1);
        check.due("after no block", Scene.all(x), before);
        check.due("the MAP stays", x.map(0), Scene.blocks(5, 30, 31));
    }

    private static void fourUnderWay() {
        TwinVolume x = Scene.source(0, 1, 2, 3, 4, 5);
        for (int block = 0; block < 4; block++) {
            check.due("copy", x.copy(0), block);
        }
        String before = Scene.all(x);
        check.due("four are under way", x.copy(0), -1);
        check.due("after a fifth", Scene.all(x), before);
        x.deliver(0);
        check.due("till COPIED has arrived", x.copy(0), -1);
        x.deliver(1);
        check.due("three are under way", x.copy(0), 4);
        check.due("four are under way", x.copy(0), -1);
    }

    private static void pendingBlocksAreLeftOut() {
        TwinVolume x = Scene.source(0, 1);
        x.write(0, 0, 5);
        check.due("block 0 has a PENDING write", x.copy(0), 1);
        check.due("block 0 has a PENDING write", x.copy(0), -1);
        Scene.settle(x);
        check.due("all is done", x.state(0), 19);
        check.due("disk", x.disk(1, 0), 5);
    }

    private static void valueOfTheMoment() {
        TwinVolume x = Scene.source(0, 1);
        x.copy(0);
        x.write(0, 0, 5);
        x.deliver(0);
        check.due("COPY has what the disk held", x.disk(1, 0), 100);
        Scene.settle(x);
        check.due("the write comes behind", x.disk(1, 0), 5);
    }

    private static void writeWhileUnderWay() {
        TwinVolume x = Scene.source(0);
        x.copy(0);
        x.write(0, 0, 5);
        check.due("COPY", x.deliver(0), 3);
        check.due("DATA", x.deliver(0), 1);
        check.due("COPIED", x.deliver(1), 4);
        check.due("END though a write is PENDING", x.state(0), 19);
        check.due("fate", x.fate(2), 1);
        check.due("FINISH", x.deliver(0), 5);
        Scene.settle(x);
        check.due("fate", x.fate(2), 2);
        check.due("generations are one", x.generation(1), x.generation(0));
    }
}
