/** Promise 13: discard. */
public final class Promise13DiscardTest {
    private static final Check check = new Check("promise 13");

    public static void main(String[] args) {
        bad();
        refused();
        givesUp();
        againAndAgain();
        leadsToAWholeUpdate();
        check.end();
    }

    private static void bad() {
        TwinVolume x = new TwinVolume();
        String before = Scene.all(x);
        for (int node : Scene.NO_NODES) {
            check.due("discard of no node", x.discard(node), false);
        }
        check.due("after BAD", Scene.all(x), before);
    }

    private static void refused() {
        TwinVolume down = new TwinVolume();
        down.crash(0);
        checkRefused("a node that is down", down, 0);
        checkRefused("a PRIMARY node", Scene.alone(1), 1);
        checkRefused("a linked node", Scene.linked(1), 0);
        TwinVolume torn = new TwinVolume();
        torn.discard(1);
        checkRefused("the peer of a TORN node", torn, 0);
        torn.crash(1);
        checkRefused("the peer of a TORN node that is down", torn, 0);
    }

    private static void checkRefused(String what, TwinVolume x, int node) {
        String before = Scene.all(x);
        check.due("discard of " + what, x.discard(node), false);
        check.due("after discard of " + what, Scene.all(x), before);
    }

    private static void givesUp() {
        TwinVolume x = Scene.linked(0);
        x.write(0, 9, 1);
        Scene.settle(x);
        x.cut();
        x.crash(0);
        x.restart(0);
        x.promote(0);
        x.write(0, 5, 2);
        x.demote(0);
        x.promote(1);
        x.write(1, 5, 3);
        check.due("CRASHED before", x.state(0), 9);
        check.due("discard", x.discard(0), true);
        check.due("TORN, not CRASHED", x.state(0), 5);
        check.due("generation", x.generation(0), 0);
        check.due("map", x.map(0), 0);
        check.due("an acknowledged write stays", x.fate(1), 2);
        check.due("an ALONE write is LOST", x.fate(2), 4);
        check.due("the peer's ALONE write stays", x.fate(3), 3);
        check.due("disk stays", x.disk(0, 5), 2);
        check.due("log stays", Scene.log(x, 0), "1,2,-1");
        check.due("the peer stays", x.generation(1), Scene.generation(3, 1));
    }

    private static void againAndAgain() {
        TwinVolume x = new TwinVolume();
        check.due("discard", x.discard(1), true);
        check.due("discard of a TORN node", x.discard(1), true);
        check.due("promote", x.promote(1), TwinVolume.UNSOUND);
        check.due("a peer that is down does not matter", discardWithPeerDown(), true);
    }

    private static boolean discardWithPeerDown() {
        TwinVolume x = new TwinVolume();
        x.crash(0);
        return x.discard(1);
    }

    private static void leadsToAWholeUpdate() {
        TwinVolume x = Scene.split();
        x.discard(1);
        check.due("connect", x.connect(), 1);
        check.due("map", x.map(0), -1);
        Scene.update(x);
        check.due("state", x.state(1), 17);
        check.due("generation", x.generation(1), Scene.generation(2, 0));
        check.due("what was given up is gone", x.disk(1, 1), 0);
        check.due("what the SOURCE had", x.disk(1, 0), 7);
        check.due("fate", x.fate(1), 2);
        check.due("fate", x.fate(2), 4);
        x.promote(1);
        x.cut();
        x.write(1, 0, 1);
        check.due("a number that was given up is not fresh", x.generation(1), Scene.generation(4, 2));
    }
}
