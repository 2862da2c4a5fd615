/** Promise 12: demote. */
public final class Promise12DemoteTest {
    private static final Check check = new Check("promise 12");

    public static void main(String[] args) {
        bad();
        downBeforeSecondary();
        secondary();
        busy();
        becomesSecondary();
        check.end();
    }

    private static void bad() {
        TwinVolume x = Scene.alone(0);
        x.promote(1);
        String before = Scene.all(x);
        for (int node : Scene.NO_NODES) {
            check.due("demote of no node", x.demote(node), TwinVolume.BAD);
        }
        check.due("after BAD", Scene.all(x), before);
    }

    private static void downBeforeSecondary() {
        TwinVolume x = Scene.alone(0);
        x.crash(0);
        check.due("demote", x.demote(0), TwinVolume.DOWN);
    }

    private static void secondary() {
        TwinVolume x = Scene.linked(0);
        x.write(0, 0, 1);
        String before = Scene.all(x);
        check.due("demote", x.demote(1), TwinVolume.SECONDARY);
        check.due("after SECONDARY", Scene.all(x), before);
    }

    private static void busy() {
        TwinVolume x = Scene.linked(0);
        x.write(0, 0, 1);
        x.deliver(0);
        x.store(1, 0);
        String before = Scene.all(x);
        check.due("demote before the ACK", x.demote(0), TwinVolume.BUSY);
        check.due("after BUSY", Scene.all(x), before);
        x.deliver(1);
        check.due("demote after the ACK", x.demote(0), 0);
        check.due("state", x.state(0), 17);
        check.due("the peer takes over", x.promote(1), 0);
        check.due("write", x.write(1, 0, 2), 2);
    }

    private static void becomesSecondary() {
        TwinVolume x = Scene.source(3);
        check.due("ALONE writes do not stand in the way", x.demote(0), 0);
        check.due("it is SOURCE still", x.state(0), 49);
        check.due("demote again", x.demote(0), TwinVolume.SECONDARY);
        Scene.update(x);
        check.due("a secondary SOURCE comes to its END", x.state(0), 17);
        check.due("disk", x.disk(1, 3), 103);
    }
}
