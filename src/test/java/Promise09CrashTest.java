/** Promise 9: crash. */
public final class Promise09CrashTest {
    private static final Check check = new Check("promise 9");

    public static void main(String[] args) {
        refused();
        secondary();
        primaryAlone();
        linkedPrimary();
        linkedPeer();
        demotedWithAloneWrites();
        target();
        check.end();
    }

    private static void refused() {
        TwinVolume x = Scene.alone(0);
        x.write(0, 0, 1);
        String before = Scene.all(x);
        for (int node : Scene.NO_NODES) {
            check.due("crash of no node", x.crash(node), false);
        }
        check.due("after refusals", Scene.all(x), before);
        x.crash(0);
        before = Scene.all(x);
        check.due("crash of a node that is down", x.crash(0), false);
        check.due("after a refusal", Scene.all(x), before);
    }

    private static void secondary() {
        TwinVolume x = new TwinVolume();
        check.due("crash", x.crash(1), true);
        check.due("no mark", x.state(1), 0);
        check.due("the peer", x.state(0), 1);
    }

    private static void primaryAlone() {
        TwinVolume x = Scene.alone(0);
        x.write(0, 9, 5);
        x.promote(1);
        x.write(1, 1, 6);
        check.due("crash", x.crash(0), true);
        check.due("CRASHED", x.state(0), 8);
        check.due("an ALONE write", x.fate(1), 4);
        check.due("the peer's ALONE write", x.fate(2), 3);
        check.due("disk stays", x.disk(0, 9), 5);
        check.due("map stays", x.map(0), Scene.blocks(9));
        check.due("log stays", Scene.log(x, 0), "2,-1,-1");
        check.due("generation stays", x.generation(0), Scene.generation(2, 1));
    }

    private static void linkedPrimary() {
        TwinVolume x = Scene.linked(1);
        x.write(1, 0, 1);
        Scene.settle(x);
        x.write(1, 1, 2);
        check.due("crash", x.crash(1), true);
        check.due("an acknowledged write stays", x.fate(1), 2);
        check.due("a PENDING write is LOST", x.fate(2), 4);
        check.due("it does not end up alone", x.map(1), 0);
        check.due("no fresh number", x.generation(1), Scene.generation(1, 0));
        check.due("CRASHED", x.state(1), 8);
        check.due("not linked", x.state(0), 1);
        check.due("nothing is on the way", x.traffic(1), 0);
        check.due("cut", x.cut(), false);
    }

    private static void linkedPeer() {
        TwinVolume x = Scene.linked(0);
        x.write(0, 9, 1);
        x.deliver(0);
        check.due("crash", x.crash(1), true);
        check.due("no mark", x.state(1), 0);
        check.due("PRIMARY stays", x.state(0), 3);
        check.due("fate", x.fate(1), 3);
        check.due("map", x.map(0), Scene.blocks(9));
        check.due("generation", x.generation(0), Scene.generation(2, 1));
        check.due("nothing waits", x.traffic(1), 0);
    }

    private static void demotedWithAloneWrites() {
        TwinVolume x = Scene.alone(0);
        x.write(0, 9, 1);
        x.demote(0);
        x.crash(0);
        check.due("fate", x.fate(1), 4);
        check.due("no CRASHED mark for a secondary", x.state(0), 0);
        check.due("map stays", x.map(0), Scene.blocks(9));
    }

    private static void target() {
        TwinVolume x = Scene.source(3);
        x.copy(0);
        x.crash(1);
        check.due("TORN stays", x.state(1), 4);
        check.due("not SOURCE", x.state(0), 3);
        check.due("nothing is under way", x.traffic(0), 0);
        check.due("fate of the SOURCE's write", x.fate(1), 3);
        x.restart(1);
        check.due("TORN stays", x.state(1), 5);
        x.connect();
        x.crash(0);
        check.due("fate of the SOURCE's write", x.fate(1), 4);
        check.due("CRASHED", x.state(0), 8);
        check.due("TORN stays", x.state(1), 5);
        x.restart(0);
        x.connect();
        Scene.update(x);
        check.due("a LOST write stays so at END", x.fate(1), 4);
    }
}
