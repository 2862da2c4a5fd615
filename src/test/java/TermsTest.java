/** The sentences of "Terms" that stand behind several promises. */
public final class TermsTest {
    private static final Check check = new Check("terms");

    public static void main(String[] args) {
        constants();
        logHasThreeDifferentExtents();
        freshNumbersGoOverBothNodes();
        freshNumberAfterGivenUpNumbers();
        freshNumberAfterEnd();
        seventyFreshNumbers();
        endsUpAloneWhereBaseIsZero();
        endsUpAloneWhereBaseIsNotZero();
        aloneInABlockThatIsInTheMap();
        breakEndsUpAloneInTheOrderOfNumbers();
        keptInACrash();
        lostInACrash();
        sourceOrTargetAlone();
        crashedDiskIsBroughtUpToDate();
        refusedCallsInARow();
        readingCallsChangeNothing();
        check.end();
    }

    private static void constants() {
        int[] got = {
            TwinVolume.BAD, TwinVolume.DOWN, TwinVolume.SECONDARY, TwinVolume.FULL, TwinVolume.BUSY,
            TwinVolume.UNSOUND, TwinVolume.RIVAL, TwinVolume.SPLIT, TwinVolume.LINKED, TwinVolume.BACKWARD};
        for (int k = 0; k < got.length; k++) {
            check.due("constant " + k, got[k], -1 - k);
        }
    }

    private static void logHasThreeDifferentExtents() {
        for (int node : Scene.NODES) {
            TwinVolume x = Scene.alone(node);
            for (int k = 0; k < 60; k++) {
                x.write(node, k * 7 % 32, k);
                int front = x.log(node, 0);
                int middle = x.log(node, 1);
                int last = x.log(node, 2);
                check.due("the most recently used one is first", front, k * 7 % 32 / 4);
                check.due("different extents", front != middle && (middle == -1 || middle != last && front != last),
                        true);
                check.due("at most three", x.log(node, 3), -1);
            }
        }
    }

    private static void freshNumbersGoOverBothNodes() {
        TwinVolume x = Scene.alone(1);
        x.write(1, 0, 1);
        x.promote(0);
        x.write(0, 0, 1);
        check.due("the first fresh one", x.generation(1), Scene.generation(2, 1));
        check.due("the second fresh one", x.generation(0), Scene.generation(3, 1));
    }

    private static void freshNumberAfterGivenUpNumbers() {
        TwinVolume x = Scene.alone(0);
        x.write(0, 0, 1);
        x.demote(0);
        x.discard(0);
        x.promote(1);
        x.write(1, 0, 1);
        check.due("2 was had by node 0, which gave it up", x.generation(1), Scene.generation(3, 1));
    }

    private static void freshNumberAfterEnd() {
        TwinVolume x = Scene.source(3);
        for (int number = 2; number <= 6; number++) {
            check.due("before END", x.generation(0), Scene.generation(number, number - 1));
            Scene.update(x);
            check.due("after END", x.generation(0), Scene.generation(number, 0));
            check.due("after FINISH", x.generation(1), Scene.generation(number, 0));
            x.cut();
            check.due("a break alone brings none", x.generation(0), Scene.generation(number, 0));
            x.write(0, 3, number);
            x.connect();
        }
    }

    private static void seventyFreshNumbers() {
        TwinVolume x = Scene.alone(1);
        for (int number = 2; number <= 70; number++) {
            x.write(1, 31, number);
            x.connect();
            x.copy(1);
            x.deliver(1);
            x.deliver(0);
            check.due("FINISH", x.deliver(1), 5);
            x.cut();
        }
        check.due("the SOURCE", x.generation(1), Scene.generation(70, 0));
        check.due("the TARGET", x.generation(0), Scene.generation(70, 0));
        x.write(1, 31, 71);
        check.due("CURRENT 71, BASE 70", x.generation(1), 71 * 4294967296L + 70);
    }

    private static void endsUpAloneWhereBaseIsZero() {
        for (int node : Scene.NODES) {
            TwinVolume x = Scene.alone(node);
            x.write(node, 31, 1);
            check.due("fate", x.fate(1), 3);
            check.due("map", x.map(node), Scene.blocks(31));
            check.due("BASE is what CURRENT was, CURRENT is fresh", x.generation(node), Scene.generation(2, 1));
        }
    }

    private static void endsUpAloneWhereBaseIsNotZero() {
        for (int node : Scene.NODES) {
            TwinVolume x = Scene.alone(node);
            x.write(node, 31, 1);
            x.promote(1 - node);
            x.write(1 - node, 5, 1);
            x.write(node, 0, 1);
            check.due("fate", x.fate(3), 3);
            check.due("map", x.map(node), Scene.blocks(0, 31));
            check.due("both numbers stay", x.generation(node), Scene.generation(2, 1));
        }
    }

    private static void aloneInABlockThatIsInTheMap() {
        TwinVolume x = Scene.alone(0);
        x.write(0, 31, 1);
        x.write(0, 31, 2);
        check.due("a set has a block once", x.map(0), Scene.blocks(31));
        check.due("fate of the first", x.fate(1), 3);
        check.due("fate of the second", x.fate(2), 3);
    }

    private static void breakEndsUpAloneInTheOrderOfNumbers() {
        TwinVolume x = Scene.eightPending(1);
        x.cut();
        for (int write = 1; write <= 8; write++) {
            check.due("fate", x.fate(write), 3);
        }
        check.due("map", x.map(1), Scene.blocks(0, 4, 8, 1, 5, 9, 2, 6));
        check.due("one fresh number for all", x.generation(1), Scene.generation(2, 1));
    }

    private static void keptInACrash() {
        TwinVolume x = Scene.pending(0, 9, 31);
        Scene.settle(x);
        x.cut();
        x.write(0, 4, 1);
        x.demote(0);
        String before = kept(x, 0);
        x.crash(0);
        check.due("disk, MAP, LOG and numbers of a node that is down", kept(x, 0), before);
        x.restart(0);
        check.due("disk, MAP, LOG and numbers of a node that came up", kept(x, 0), before);
    }

    private static String kept(TwinVolume x, int node) {
        StringBuilder seen = new StringBuilder();
        for (int block = 0; block < 32; block++) {
            seen.append(x.disk(node, block)).append(' ');
        }
        return seen + "map " + x.map(node) + " log " + Scene.log(x, node) + " generation " + x.generation(node);
    }

    private static void lostInACrash() {
        TwinVolume x = Scene.source(3);
        x.copy(0);
        x.crash(0);
        x.restart(0);
        check.due("neither PRIMARY nor linked nor SOURCE", x.state(0), 9);
        check.due("nor TARGET, but TORN", x.state(1), 5);
        check.due("nothing is under way", x.traffic(0), 0);
        check.due("copy", x.copy(0), -1);
        check.due("write", x.write(0, 0, 1), TwinVolume.SECONDARY);
    }

    /** "both or one of them": after END the peer is TARGET alone till FINISH arrives. */
    private static void sourceOrTargetAlone() {
        TwinVolume x = Scene.source(3);
        check.due("SOURCE and TARGET", (x.state(0) & 32) + (x.state(1) & 64), 96);
        TwinVolume y = Scene.finishing();
        check.due("TARGET alone", (y.state(0) & 32) + (y.state(1) & 64), 64);
        y.deliver(0);
        check.due("neither", (y.state(0) & 32) + (y.state(1) & 64), 0);
    }

    private static void crashedDiskIsBroughtUpToDate() {
        TwinVolume x = Scene.waiting(0, 9, 31);
        x.store(1, 1);
        x.crash(0);
        x.restart(0);
        x.promote(1);
        x.write(1, 9, 55);
        check.due("the peer went on", x.connect(), 2);
        Scene.update(x);
        for (int block = 0; block < 32; block++) {
            check.due("the disks are one", x.disk(0, block), x.disk(1, block));
        }
        check.due("what the peer wrote", x.disk(0, 9), 55);
        check.due("what the peer had stored", x.disk(0, 31), 131);
        check.due("state", x.state(0), 17);
    }

    private static void refusedCallsInARow() {
        Twins.unchanged(check, "many refused calls", () -> Scene.waiting(0, 0, 4, 8), x -> {
            for (int far : new int[] {-1, 2, Integer.MIN_VALUE, Integer.MAX_VALUE}) {
                x.write(far, 0, 1);
                x.write(0, far == 2 ? 32 : far, 1);
                x.barrier(far);
                x.deliver(far);
                x.store(far, 0);
                x.store(1, far == 2 ? 3 : far);
                x.copy(far);
                x.crash(far);
                x.restart(far);
                x.promote(far);
                x.demote(far);
                x.discard(far);
            }
            x.write(0, 12, 1);
            x.write(1, 0, 1);
            x.barrier(1);
            x.deliver(1);
            x.store(0, 0);
            x.copy(0);
            x.connect();
            x.restart(0);
            x.promote(1);
            x.demote(0);
            x.demote(1);
            return x.discard(1);
        });
    }

    private static void readingCallsChangeNothing() {
        Twins.unchanged(check, "all that can be read", () -> Scene.source(3, 9, 31), Scene::all);
        Twins.unchanged(check, "all that can be read", () -> Scene.waiting(1, 3, 3, 9), Scene::all);
    }
}
