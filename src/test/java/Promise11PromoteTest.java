/** Promise 11: promote. */
public final class Promise11PromoteTest {
    private static final Check check = new Check("promise 11");

    public static void main(String[] args) {
        badNode();
        down();
        unsound();
        unsoundTillFinish();
        rival();
        rivalsThatAreNotLinked();
        downComesBeforeUnsound();
        unsoundComesBeforeRival();
        becomesPrimary();
        nothingChangesIfItIsAlready();
        crashedNode();
        check.end();
    }

    private static void badNode() {
        for (int node : Scene.NO_NODES) {
            Twins.refused(check, "promote of node " + node, TwinVolume::new, x -> x.promote(node), TwinVolume.BAD);
        }
    }

    private static TwinVolume downed(TwinVolume x, int node) {
        x.crash(node);
        return x;
    }

    private static void down() {
        for (int node : Scene.NODES) {
            Twins.refused(check, "promote", () -> downed(new TwinVolume(), node), x -> x.promote(node),
                    TwinVolume.DOWN);
            Twins.refused(check, "promote", () -> downed(Scene.pending(node, 3), node), x -> x.promote(node),
                    TwinVolume.DOWN);
            check.due("when the peer is down", downed(new TwinVolume(), 1 - node).promote(node), 0);
        }
    }

    private static TwinVolume discarded(int node) {
        TwinVolume x = new TwinVolume();
        x.discard(node);
        return x;
    }

    private static void unsound() {
        for (int node : Scene.NODES) {
            Twins.refused(check, "promote of a TORN node", () -> Scene.torn(node), x -> x.promote(node),
                    TwinVolume.UNSOUND);
            Twins.refused(check, "promote after discard", () -> discarded(node), x -> x.promote(node),
                    TwinVolume.UNSOUND);
            check.due("promote of the peer", discarded(node).promote(1 - node), 0);
        }
    }

    private static void unsoundTillFinish() {
        for (int node : Scene.NODES) {
            TwinVolume x = Scene.finishingAt(1 - node);
            x.demote(1 - node);
            check.due("FINISH is on the way", x.promote(node), TwinVolume.UNSOUND);
            x.deliver(1 - node);
            check.due("TORN no longer", x.promote(node), 0);
        }
    }

    private static void rival() {
        for (int node : Scene.NODES) {
            Twins.refused(check, "promote", () -> Scene.linked(1 - node), x -> x.promote(node), TwinVolume.RIVAL);
            Twins.refused(check, "promote with a PENDING write", () -> Scene.waiting(1 - node, 3),
                    x -> x.promote(node), TwinVolume.RIVAL);
        }
    }

    private static void rivalsThatAreNotLinked() {
        for (int node : Scene.NODES) {
            TwinVolume x = Scene.linked(1 - node);
            x.cut();
            check.due("after a break", x.promote(node), 0);
            check.due("both are PRIMARY", x.state(0) + x.state(1), 6);
        }
    }

    private static void downComesBeforeUnsound() {
        for (int node : Scene.NODES) {
            Twins.refused(check, "DOWN and UNSOUND", () -> downed(discarded(node), node), x -> x.promote(node),
                    TwinVolume.DOWN);
        }
    }

    private static void unsoundComesBeforeRival() {
        for (int node : Scene.NODES) {
            Twins.refused(check, "UNSOUND and RIVAL", () -> Scene.sourceAt(1 - node, 3), x -> x.promote(node),
                    TwinVolume.UNSOUND);
        }
    }

    private static void becomesPrimary() {
        for (int node : Scene.NODES) {
            TwinVolume x = new TwinVolume();
            check.due("promote", x.promote(node), 0);
            check.due("state", x.state(node), 3);
            check.due("state of the peer", x.state(1 - node), 1);
            TwinVolume y = new TwinVolume();
            y.connect();
            check.due("promote in a link", y.promote(node), 0);
            check.due("state", y.state(node), 19);
        }
        TwinVolume z = Scene.source(3);
        z.demote(0);
        check.due("promote of a SOURCE", z.promote(0), 0);
        check.due("state", z.state(0), 51);
    }

    private static void nothingChangesIfItIsAlready() {
        for (int node : Scene.NODES) {
            Twins.refused(check, "promote of a PRIMARY", () -> Scene.alone(node), x -> x.promote(node), 0);
            Twins.refused(check, "promote of a linked PRIMARY", () -> Scene.waiting(node, 1, 31),
                    x -> x.promote(node), 0);
        }
        Twins.refused(check, "promote of a PRIMARY SOURCE", () -> Scene.source(3), x -> x.promote(0), 0);
    }

    private static void crashedNode() {
        TwinVolume x = Scene.crashed();
        check.due("promote", x.promote(0), 0);
        check.due("CRASHED stays", x.state(0), 11);
    }
}
