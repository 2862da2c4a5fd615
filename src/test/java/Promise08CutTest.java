/** Promise 8: cut, and what a break of the link does. */
public final class Promise08CutTest {
    private static final Check check = new Check("promise 8");

    public static void main(String[] args) {
        notLinked();
        idleLink();
        pendingWritesEndUpAlone();
        updateIsBroken();
        check.end();
    }

    private static void notLinked() {
        TwinVolume x = Scene.alone(0);
        x.write(0, 1, 1);
        String before = Scene.all(x);
        check.due("cut", x.cut(), false);
        check.due("after a refused cut", Scene.all(x), before);
    }

    private static void idleLink() {
        TwinVolume x = Scene.linked(0);
        check.due("cut", x.cut(), true);
        check.due("state", x.state(0), 3);
        check.due("state", x.state(1), 1);
        check.due("no write, no fresh number", x.generation(0), Scene.generation(1, 0));
        check.due("cut again", x.cut(), false);
        check.due("connect", x.connect(), 0);
    }

    private static void pendingWritesEndUpAlone() {
        TwinVolume x = Scene.linked(1);
        x.write(1, 0, 1);
        x.write(1, 4, 2);
        x.write(1, 5, 3);
        x.write(1, 31, 4);
        for (int k = 0; k < 3; k++) {
            x.deliver(1);
        }
        x.store(0, 0);
        x.store(0, 0);
        x.deliver(0);
        check.due("traffic", x.traffic(0), 101);
        check.due("cut", x.cut(), true);
        check.due("an acknowledged one stays", x.fate(1), 2);
        check.due("its ACK was on the way", x.fate(2), 3);
        check.due("it waited", x.fate(3), 3);
        check.due("it was on the way", x.fate(4), 3);
        check.due("map", x.map(1), Scene.blocks(4, 5, 31));
        check.due("map of the peer", x.map(0), 0);
        check.due("one fresh number", x.generation(1), Scene.generation(2, 1));
        check.due("traffic", x.traffic(0), 0);
        check.due("traffic", x.traffic(1), 0);
        check.due("nothing is on the way", x.deliver(0), 0);
        check.due("nothing is on the way", x.deliver(1), 0);
        check.due("nothing waits", x.store(0, 0), 0);
        check.due("what was stored stays", x.disk(0, 4), 2);
        check.due("connect", x.connect(), 2);
        check.due("nothing is on the way on the next link", x.traffic(1), 0);
    }

    private static void updateIsBroken() {
        TwinVolume x = Scene.source(3, 9);
        x.copy(0);
        x.copy(0);
        x.deliver(0);
        check.due("cut", x.cut(), true);
        check.due("not SOURCE", x.state(0), 3);
        check.due("TORN stays", x.state(1), 5);
        check.due("nothing is under way", x.traffic(0), 0);
        check.due("the MAP stays", x.map(0), Scene.blocks(3, 9));
        check.due("generation stays", x.generation(0), Scene.generation(2, 1));
        check.due("fate stays", x.fate(1), 3);
        check.due("connect", x.connect(), 1);
        check.due("copy begins anew", x.copy(0), 3);
        Scene.update(x);
        check.due("state", x.state(1), 17);
        check.due("fate", x.fate(1), 2);
    }
}
