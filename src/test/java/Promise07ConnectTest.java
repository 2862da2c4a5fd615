/** Promise 7: connect. */
public final class Promise07ConnectTest {
    private static final Check check = new Check("promise 7");

    public static void main(String[] args) {
        down();
        linkedAlready();
        rival();
        split();
        splitAfterBothCameFar();
        backwardByBase();
        backwardByCrashedNever();
        downComesFirst();
        rivalComesBeforeSplitAndBackward();
        noneIsSource();
        sourceByTorn();
        tornComesBeforeTheGenerations();
        tornComesBeforePrimaryAndCrashed();
        sourceByBase();
        baseComesBeforeCrashed();
        sourceByPrimary();
        sourceByCrashed();
        bothCrashed();
        allBlocksForCurrentZero();
        allBlocksForAnUnknownCurrent();
        peersMapJoinsWhenCurrentIsBase();
        peersMapJoinsWhenCurrentIsCurrent();
        linkedWithNothingOnTheWay();
        endAtOnce();
        noEndWhenOnlyThePeerHasAMap();
        check.end();
    }

    private static TwinVolume downed(int... nodes) {
        TwinVolume x = new TwinVolume();
        for (int node : nodes) {
            x.crash(node);
        }
        return x;
    }

    private static void down() {
        Twins.refused(check, "connect with 0 down", () -> downed(0), x -> x.connect(), TwinVolume.DOWN);
        Twins.refused(check, "connect with 1 down", () -> downed(1), x -> x.connect(), TwinVolume.DOWN);
        Twins.refused(check, "connect with both down", () -> downed(0, 1), x -> x.connect(), TwinVolume.DOWN);
        TwinVolume x = downed(0, 1);
        x.restart(0);
        check.due("one is up again", x.connect(), TwinVolume.DOWN);
        x.restart(1);
        check.due("both are up again", x.connect(), 0);
    }

    private static TwinVolume copying() {
        TwinVolume x = Scene.source(4, 5);
        x.copy(0);
        x.write(0, 9, 1);
        x.deliver(0);
        return x;
    }

    private static void linkedAlready() {
        Twins.refused(check, "connect of an idle link", () -> Scene.linked(0), x -> x.connect(), TwinVolume.LINKED);
        Twins.refused(check, "connect in an update", Promise07ConnectTest::copying, x -> x.connect(),
                TwinVolume.LINKED);
        Twins.refused(check, "connect with writes that wait", () -> Scene.waiting(1, 3, 4), x -> x.connect(),
                TwinVolume.LINKED);
    }

    private static TwinVolume bothPrimary(TwinVolume x) {
        x.promote(0);
        x.promote(1);
        return x;
    }

    private static void rival() {
        Twins.refused(check, "connect of two PRIMARY nodes", () -> bothPrimary(new TwinVolume()), x -> x.connect(),
                TwinVolume.RIVAL);
        for (int node : Scene.NODES) {
            TwinVolume x = bothPrimary(new TwinVolume());
            x.demote(node);
            check.due("connect with one PRIMARY", x.connect(), 0);
        }
    }

    private static TwinVolume splitWith(int primary) {
        TwinVolume x = Scene.split();
        x.promote(primary);
        return x;
    }

    private static void split() {
        Twins.refused(check, "connect", Scene::split, x -> x.connect(), TwinVolume.SPLIT);
        for (int node : Scene.NODES) {
            Twins.refused(check, "connect with a PRIMARY", () -> splitWith(node), x -> x.connect(), TwinVolume.SPLIT);
        }
    }

    /** Node 0 is two numbers ahead of what node 1 left, so its BASE is not what node 1 has. */
    private static void splitAfterBothCameFar() {
        TwinVolume x = Scene.source(3);
        Scene.update(x);
        x.cut();
        x.write(0, 3, 1);
        check.due("node 0", x.generation(0), Scene.generation(3, 2));
        x.promote(1);
        x.write(1, 4, 1);
        check.due("node 1", x.generation(1), Scene.generation(4, 2));
        x.demote(1);
        check.due("the same BASE is not enough", x.connect(), TwinVolume.SPLIT);
    }

    private static void backwardByBase() {
        for (int node : Scene.NODES) {
            Twins.refused(check, "connect", () -> Scene.backward(node), x -> x.connect(), TwinVolume.BACKWARD);
            TwinVolume x = Scene.backward(node);
            x.demote(1 - node);
            check.due("connect of secondaries", x.connect(), 1 + node);
            check.due("a secondary SOURCE", x.state(node), 49);
        }
    }

    private static void backwardByCrashedNever() {
        for (int node : Scene.NODES) {
            TwinVolume x = Scene.bothCrashed();
            x.promote(node);
            check.due("the PRIMARY is SOURCE", x.connect(), 1 + node);
        }
    }

    private static void downComesFirst() {
        TwinVolume split = Scene.split();
        split.crash(1);
        check.due("DOWN and SPLIT", split.connect(), TwinVolume.DOWN);
        for (int node : Scene.NODES) {
            TwinVolume x = Scene.backward(node);
            x.crash(node);
            check.due("DOWN and BACKWARD", x.connect(), TwinVolume.DOWN);
        }
    }

    private static void rivalComesBeforeSplitAndBackward() {
        Twins.refused(check, "RIVAL and SPLIT", () -> bothPrimary(Scene.split()), x -> x.connect(), TwinVolume.RIVAL);
        for (int node : Scene.NODES) {
            Twins.refused(check, "RIVAL and BACKWARD", () -> bothPrimary(Scene.backward(node)), x -> x.connect(),
                    TwinVolume.RIVAL);
        }
    }

    private static void noneIsSource() {
        TwinVolume x = new TwinVolume();
        check.due("connect", x.connect(), 0);
        for (int node : Scene.NODES) {
            check.due("linked, neither SOURCE nor TARGET", x.state(node), 17);
            check.due("traffic", x.traffic(node), 0);
            TwinVolume y = Scene.alone(node);
            check.due("connect with a PRIMARY", y.connect(), 0);
            check.due("state", y.state(node), 19);
            check.due("state of the peer", y.state(1 - node), 17);
        }
    }

    private static void sourceByTorn() {
        for (int node : Scene.NODES) {
            TwinVolume x = Scene.torn(node);
            check.due("TORN", x.state(node), 5);
            check.due("connect", x.connect(), 2 - node);
            check.due("the SOURCE", x.state(1 - node), 51);
            check.due("the TARGET", x.state(node), 85);
            check.due("map", x.map(1 - node), Scene.blocks(2));
        }
    }

    private static void tornComesBeforeTheGenerations() {
        for (int node : Scene.NODES) {
            TwinVolume x = Scene.split();
            x.discard(node);
            check.due("no SPLIT", x.connect(), 2 - node);
            TwinVolume y = Scene.backward(node);
            y.discard(node);
            check.due("no BACKWARD though it was ahead", y.connect(), 2 - node);
        }
    }

    private static void tornComesBeforePrimaryAndCrashed() {
        for (int node : Scene.NODES) {
            TwinVolume x = Scene.pending(node, 9);
            x.crash(node);
            x.restart(node);
            x.connect();
            x.cut();
            check.due("TORN, of the same CURRENT", x.state(1 - node), 5);
            check.due("the peer of the TORN one", x.connect(), 1 + node);
            TwinVolume y = Scene.pending(node, 9);
            y.crash(node);
            y.restart(node);
            y.promote(1 - node);
            y.connect();
            y.cut();
            check.due("TORN and CRASHED", y.state(node), 13);
            y.demote(1 - node);
            check.due("the peer of the TORN one, though that is CRASHED", y.connect(), 2 - node);
        }
    }

    private static void sourceByBase() {
        for (int node : Scene.NODES) {
            TwinVolume x = Scene.alone(node);
            x.write(node, 2, 3);
            check.due("connect", x.connect(), 1 + node);
            check.due("state of the SOURCE", x.state(node), 51);
            check.due("state of the TARGET", x.state(1 - node), 85);
            check.due("map of the SOURCE", x.map(node), Scene.blocks(2));
            check.due("map of the TARGET", x.map(1 - node), 0);
            check.due("generation", x.generation(node), Scene.generation(2, 1));
            check.due("generation", x.generation(1 - node), Scene.generation(1, 0));
            check.due("fate", x.fate(1), 3);
        }
    }

    private static void baseComesBeforeCrashed() {
        for (int node : Scene.NODES) {
            TwinVolume x = Scene.pending(node, 9);
            x.crash(node);
            x.restart(node);
            x.promote(1 - node);
            x.write(1 - node, 20, 1);
            x.demote(1 - node);
            check.due("CRASHED", x.state(node), 9);
            check.due("the one that is ahead", x.connect(), 2 - node);
            check.due("TARGET, TORN and CRASHED", x.state(node), 93);
        }
    }

    private static void sourceByPrimary() {
        for (int node : Scene.NODES) {
            TwinVolume x = Scene.crashed();
            x.promote(node);
            check.due("connect", x.connect(), 1 + node);
            check.due("the peer is TORN and TARGET", x.state(1 - node) & 68, 68);
            check.due("END at once", x.state(node), 19);
        }
    }

    private static void sourceByCrashed() {
        for (int node : Scene.NODES) {
            TwinVolume x = Scene.pending(node, 9);
            x.crash(node);
            x.restart(node);
            check.due("connect", x.connect(), 1 + node);
            check.due("state", x.state(node), 57);
            check.due("state of the peer", x.state(1 - node), 85);
            check.due("map", x.map(node), 0xf00);
            check.due("CURRENT is the same", x.generation(node), x.generation(1 - node));
            Scene.update(x);
            check.due("CRASHED goes off", x.state(node), 17);
            check.due("disk", x.disk(1 - node, 9), 109);
        }
    }

    private static void bothCrashed() {
        TwinVolume x = Scene.bothCrashed();
        check.due("both are CRASHED", x.state(0) + x.state(1), 18);
        check.due("node 0 is SOURCE", x.connect(), 1);
        check.due("CRASHED off by END", x.state(0), 17);
        check.due("TARGET, TORN and CRASHED", x.state(1), 93);
        x.deliver(0);
        check.due("CRASHED off by FINISH", x.state(1), 17);
    }

    private static void allBlocksForCurrentZero() {
        for (int node : Scene.NODES) {
            TwinVolume x = new TwinVolume();
            x.discard(node);
            check.due("connect", x.connect(), 2 - node);
            check.due("CURRENT 0 is not the SOURCE's BASE 0", x.map(1 - node), -1);
            TwinVolume y = Scene.alone(1 - node);
            y.write(1 - node, 5, 1);
            y.discard(node);
            check.due("connect", y.connect(), 2 - node);
            check.due("CURRENT 0, BASE 1", y.map(1 - node), -1);
            check.due("no END", y.state(1 - node), 51);
        }
    }

    private static void allBlocksForAnUnknownCurrent() {
        TwinVolume x = Scene.finishing();
        x.cut();
        check.due("END was, FINISH was not", x.generation(0), Scene.generation(2, 0));
        check.due("connect", x.connect(), 1);
        check.due("CURRENT 1 is neither CURRENT 2 nor BASE 0", x.map(0), -1);
        TwinVolume y = Scene.finishing();
        y.cut();
        y.write(0, 7, 1);
        check.due("generation", y.generation(0), Scene.generation(3, 2));
        check.due("connect", y.connect(), 1);
        check.due("CURRENT 1 is neither CURRENT 3 nor BASE 2", y.map(0), -1);
    }

    private static void peersMapJoinsWhenCurrentIsBase() {
        TwinVolume x = Scene.pending(0, 9);
        x.crash(0);
        x.restart(0);
        x.promote(1);
        x.write(1, 20, 2);
        check.due("connect", x.connect(), 2);
        check.due("map", x.map(1), 0xf00 | Scene.blocks(20));
        check.due("the peer's MAP stays", x.map(0), 0xf00);
    }

    private static void peersMapJoinsWhenCurrentIsCurrent() {
        TwinVolume x = Scene.pending(0, 9);
        Scene.settle(x);
        x.demote(0);
        x.promote(1);
        x.write(1, 31, 1);
        x.crash(1);
        x.restart(1);
        x.promote(0);
        x.crash(0);
        x.restart(0);
        check.due("maps before", x.map(0) ^ x.map(1), 0xf0000f00);
        check.due("generations before", x.generation(0), x.generation(1));
        check.due("connect", x.connect(), 1);
        check.due("map", x.map(0), 0xf0000f00);
        check.due("the peer's MAP stays", x.map(1), 0xf0000000);
    }

    private static void linkedWithNothingOnTheWay() {
        TwinVolume x = copying();
        x.cut();
        check.due("connect", x.connect(), 1);
        for (int node : Scene.NODES) {
            check.due("traffic", x.traffic(node), 0);
            check.due("deliver", x.deliver(node), 0);
            check.due("store", x.store(node, 0), 0);
        }
    }

    private static void endAtOnce() {
        TwinVolume x = Scene.crashed();
        check.due("state", x.state(0), 9);
        check.due("the answer tells the SOURCE", x.connect(), 1);
        check.due("SOURCE no longer, nor CRASHED", x.state(0), 17);
        check.due("TARGET and TORN", x.state(1), 85);
        check.due("FINISH is on the way", x.traffic(0), 1);
        check.due("copy", x.copy(0), -1);
        check.due("FINISH", x.deliver(0), 5);
        check.due("state", x.state(1), 17);
        check.due("generation", x.generation(1), Scene.generation(1, 0));
    }

    private static void noEndWhenOnlyThePeerHasAMap() {
        TwinVolume x = Scene.pending(0, 9);
        x.crash(0);
        x.restart(0);
        x.promote(1);
        check.due("the SOURCE's own MAP is empty", x.map(1), 0);
        check.due("connect", x.connect(), 2);
        check.due("SOURCE", x.state(1), 51);
        check.due("map", x.map(1), 0xf00);
        check.due("no FINISH", x.traffic(1), 0);
    }
}
