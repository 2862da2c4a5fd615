/** Promise 7: connect. */
public final class Promise07ConnectTest {
    private static final Check check = new Check("promise 7");

    public static void main(String[] args) {
        plain();
        down();
        linkedAlready();
        rivals();
        split();
        sourceByBase();
        backwardByBase();
        sourceByTorn();
        backwardByTornNever();
        wholeMap();
        sourceByPrimary();
        sourceByCrashed();
        bothCrashed();
        peersMapJoins();
        endAtOnce();
        check.end();
    }

    private static void plain() {
        TwinVolume x = new TwinVolume();
        check.due("connect", x.connect(), 0);
        for (int node = 0; node < 2; node++) {
            check.due("state", x.state(node), 17);
            check.due("traffic", x.traffic(node), 0);
        }
        TwinVolume y = Scene.alone(1);
        check.due("connect with a PRIMARY", y.connect(), 0);
        check.due("state", y.state(1), 19);
    }

    private static void down() {
        for (int node = 0; node < 2; node++) {
            TwinVolume x = new TwinVolume();
            x.crash(node);
            String before = Scene.all(x);
            check.due("connect", x.connect(), TwinVolume.DOWN);
            check.due("after DOWN", Scene.all(x), before);
        }
        TwinVolume both = new TwinVolume();
        both.crash(0);
        both.crash(1);
        check.due("connect", both.connect(), TwinVolume.DOWN);
        TwinVolume different = Scene.split();
        different.crash(1);
        check.due("DOWN is looked at before SPLIT", different.connect(), TwinVolume.DOWN);
    }

    private static void linkedAlready() {
        TwinVolume x = Scene.source(4);
        x.copy(0);
        String before = Scene.all(x);
        check.due("connect", x.connect(), TwinVolume.LINKED);
        check.due("after LINKED", Scene.all(x), before);
    }

    private static void rivals() {
        TwinVolume x = Scene.alone(0);
        x.promote(1);
        String before = Scene.all(x);
        check.due("connect", x.connect(), TwinVolume.RIVAL);
        check.due("after RIVAL", Scene.all(x), before);
        TwinVolume y = Scene.split();
        y.promote(0);
        y.promote(1);
        check.due("RIVAL is looked at before SPLIT", y.connect(), TwinVolume.RIVAL);
    }

    private static void split() {
        TwinVolume x = Scene.split();
        String before = Scene.all(x);
        check.due("connect", x.connect(), TwinVolume.SPLIT);
        check.due("after SPLIT", Scene.all(x), before);
        x.promote(1);
        check.due("SPLIT with a PRIMARY", x.connect(), TwinVolume.SPLIT);
    }

    private static void sourceByBase() {
        for (int node = 0; node < 2; node++) {
            TwinVolume x = Scene.alone(node);
            x.write(node, 2, 3);
            check.due("connect", x.connect(), 1 + node);
            check.due("state of the SOURCE", x.state(node), 51);
            check.due("state of the TARGET", x.state(1 - node), 85);
            check.due("map of the SOURCE", x.map(node), Scene.blocks(2));
            check.due("map of the TARGET", x.map(1 - node), 0);
            check.due("nothing is on the way", x.traffic(node), 0);
            check.due("generation", x.generation(node), Scene.generation(2, 1));
            check.due("generation", x.generation(1 - node), Scene.generation(1, 0));
            check.due("fate", x.fate(1), 3);
        }
    }

    private static void backwardByBase() {
        for (int node = 0; node < 2; node++) {
            TwinVolume x = Scene.alone(node);
            x.write(node, 2, 3);
            x.demote(node);
            x.promote(1 - node);
            String before = Scene.all(x);
            check.due("connect", x.connect(), TwinVolume.BACKWARD);
            check.due("after BACKWARD", Scene.all(x), before);
            x.demote(1 - node);
            check.due("connect of secondaries", x.connect(), 1 + node);
            check.due("a secondary SOURCE", x.state(node), 49);
        }
    }

    private static void sourceByTorn() {
        for (int node = 0; node < 2; node++) {
            TwinVolume x = Scene.linked(node);
            x.write(node, 2, 3);
            x.cut();
            x.connect();
            x.cut();
            check.due("TORN", x.state(1 - node), 5);
            check.due("connect", x.connect(), 1 + node);
            check.due("the peer's CURRENT is BASE", x.map(node), Scene.blocks(2));
            TwinVolume y = Scene.split();
            y.discard(node);
            check.due("TORN is looked at before SPLIT", y.connect(), 2 - node);
        }
    }

    private static void backwardByTornNever() {
        TwinVolume x = Scene.alone(0);
        x.discard(1);
        check.due("a TORN peer of a PRIMARY", x.connect(), 1);
        check.due("state", x.state(0), 51);
        check.due("promote of TORN", x.promote(1), TwinVolume.UNSOUND);
    }

    private static void wholeMap() {
        TwinVolume x = new TwinVolume();
        x.discard(0);
        check.due("connect", x.connect(), 2);
        check.due("CURRENT 0, BASE 0", x.map(1), -1);
        TwinVolume y = Scene.source(3);
        y.copy(0);
        y.deliver(0);
        y.deliver(1);
        y.cut();
        check.due("END was, FINISH was not", y.generation(0), Scene.generation(2, 0));
        check.due("connect", y.connect(), 1);
        check.due("CURRENT 1 is not known any more", y.map(0), -1);
    }

    private static void sourceByPrimary() {
        for (int node = 0; node < 2; node++) {
            TwinVolume x = Scene.crashed();
            x.promote(node);
            check.due("connect", x.connect(), 1 + node);
            check.due("state of the peer is TORN and TARGET", x.state(1 - node) & 68, 68);
        }
    }

    private static void sourceByCrashed() {
        for (int node = 0; node < 2; node++) {
            TwinVolume x = Scene.linked(node);
            x.write(node, 9, 1);
            x.crash(node);
            x.restart(node);
            check.due("connect", x.connect(), 1 + node);
            check.due("state", x.state(node), 57);
            check.due("map", x.map(node), 0xf00);
            check.due("CURRENT is the same", x.generation(node), x.generation(1 - node));
            Scene.update(x);
            check.due("CRASHED goes off", x.state(node), 17);
            check.due("disk", x.disk(1 - node, 9), 1);
        }
    }

    private static void bothCrashed() {
        TwinVolume x = Scene.crashed();
        x.promote(1);
        x.crash(1);
        x.restart(1);
        check.due("both are CRASHED", x.state(0) + x.state(1), 18);
        check.due("connect", x.connect(), 1);
        TwinVolume y = Scene.crashed();
        y.promote(1);
        y.crash(1);
        y.restart(1);
        y.promote(1);
        check.due("connect with a PRIMARY", y.connect(), 2);
    }

    private static void peersMapJoins() {
        TwinVolume x = Scene.linked(0);
        x.write(0, 9, 1);
        x.crash(0);
        x.restart(0);
        x.promote(1);
        x.write(1, 20, 2);
        check.due("connect", x.connect(), 2);
        check.due("map", x.map(1), 0xf00 | Scene.blocks(20));
        check.due("the peer's MAP stays", x.map(0), 0xf00);
    }

    private static void endAtOnce() {
        TwinVolume x = Scene.crashed();
        check.due("state", x.state(0), 9);
        check.due("connect", x.connect(), 1);
        check.due("SOURCE no longer", x.state(0), 17);
        check.due("TARGET and TORN", x.state(1), 85);
        check.due("FINISH is on the way", x.traffic(0), 1);
        check.due("FINISH", x.deliver(0), 5);
        check.due("state", x.state(1), 17);
        check.due("generation", x.generation(1), Scene.generation(1, 0));
    }
}
