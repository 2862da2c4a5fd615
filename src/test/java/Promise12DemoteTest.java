/** Promise 12: demote. */
public final class Promise12DemoteTest {
    private static final Check check = new Check("promise 12");

    public static void main(String[] args) {
        badNode();
        down();
        secondary();
        busy();
        busyTillTheLastAck();
        notBusyAfterABreak();
        aloneWritesDoNotStandInTheWay();
        becomesSecondary();
        check.end();
    }

    private static TwinVolume bothPrimary() {
        TwinVolume x = Scene.alone(0);
        x.promote(1);
        return x;
    }

    private static void badNode() {
        for (int node : Scene.NO_NODES) {
            Twins.refused(check, "demote of node " + node, Promise12DemoteTest::bothPrimary, x -> x.demote(node),
                    TwinVolume.BAD);
        }
    }

    private static TwinVolume down(int node) {
        TwinVolume x = bothPrimary();
        x.crash(node);
        return x;
    }

    private static void down() {
        for (int node : Scene.NODES) {
            Twins.refused(check, "DOWN and SECONDARY", () -> down(node), x -> x.demote(node), TwinVolume.DOWN);
            check.due("demote when the peer is down", down(1 - node).demote(node), 0);
        }
    }

    private static void secondary() {
        for (int node : Scene.NODES) {
            Twins.refused(check, "demote of a new node", TwinVolume::new, x -> x.demote(node), TwinVolume.SECONDARY);
            Twins.refused(check, "demote of the peer of a PRIMARY", () -> Scene.waiting(1 - node, 0),
                    x -> x.demote(node), TwinVolume.SECONDARY);
            TwinVolume x = Scene.alone(node);
            x.demote(node);
            check.due("demote again", x.demote(node), TwinVolume.SECONDARY);
        }
    }

    private static TwinVolume stored(int node) {
        TwinVolume x = Scene.waiting(node, 0);
        x.store(1 - node, 0);
        return x;
    }

    private static void busy() {
        for (int node : Scene.NODES) {
            Twins.refused(check, "DATA is on the way", () -> Scene.pending(node, 0), x -> x.demote(node),
                    TwinVolume.BUSY);
            Twins.refused(check, "the write waits", () -> Scene.waiting(node, 31), x -> x.demote(node),
                    TwinVolume.BUSY);
            Twins.refused(check, "ACK is on the way", () -> stored(node), x -> x.demote(node), TwinVolume.BUSY);
        }
    }

    private static void busyTillTheLastAck() {
        for (int node : Scene.NODES) {
            TwinVolume x = Scene.waiting(node, 0, 1);
            x.store(1 - node, 1);
            x.deliver(1 - node);
            check.due("one of two is PENDING", x.demote(node), TwinVolume.BUSY);
            x.store(1 - node, 0);
            x.deliver(1 - node);
            check.due("none is PENDING", x.demote(node), 0);
            check.due("state", x.state(node), 17);
            check.due("the peer takes over", x.promote(1 - node), 0);
            check.due("write", x.write(1 - node, 0, 2), 3);
        }
    }

    private static void notBusyAfterABreak() {
        for (int node : Scene.NODES) {
            TwinVolume x = Scene.pending(node, 0);
            x.cut();
            check.due("demote", x.demote(node), 0);
            check.due("state", x.state(node), 1);
            check.due("fate", x.fate(1), 3);
        }
    }

    private static void aloneWritesDoNotStandInTheWay() {
        for (int node : Scene.NODES) {
            TwinVolume x = Scene.sourceAt(node, 3);
            check.due("demote", x.demote(node), 0);
            check.due("it is SOURCE still", x.state(node), 49);
            Scene.update(x);
            check.due("a secondary SOURCE comes to its END", x.state(node), 17);
            check.due("disk", x.disk(1 - node, 3), 103);
            check.due("fate", x.fate(1), 2);
        }
    }

    private static void becomesSecondary() {
        for (int node : Scene.NODES) {
            TwinVolume x = bothPrimary();
            check.due("demote", x.demote(node), 0);
            check.due("state", x.state(node), 1);
            check.due("state of the peer", x.state(1 - node), 3);
            x.crash(node);
            check.due("no CRASHED for a secondary", x.state(node), 0);
        }
    }
}
