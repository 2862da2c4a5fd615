/** Promise 10: restart. */
public final class Promise10RestartTest {
    private static final Check check = new Check("promise 10");

    public static void main(String[] args) {
        refused();
        secondary();
        crashedPrimary();
        mapBeyondTheLog();
        crashedMarkStays();
        check.end();
    }

    private static void refused() {
        TwinVolume x = Scene.alone(0);
        x.write(0, 0, 1);
        String before = Scene.all(x);
        for (int node : Scene.NO_NODES) {
            check.due("restart of no node", x.restart(node), false);
        }
        check.due("restart of a node that is up", x.restart(0), false);
        check.due("restart of a node that is up", x.restart(1), false);
        check.due("after refusals", Scene.all(x), before);
    }

    private static void secondary() {
        TwinVolume x = Scene.alone(0);
        x.write(0, 9, 1);
        x.demote(0);
        x.crash(0);
        check.due("restart", x.restart(0), true);
        check.due("state", x.state(0), 1);
        check.due("its LOG does not join its MAP", x.map(0), Scene.blocks(9));
        check.due("log", Scene.log(x, 0), "2,-1,-1");
    }

    private static void crashedPrimary() {
        TwinVolume x = Scene.linked(1);
        int[] blocks = {0, 9, 30, 12};
        for (int block : blocks) {
            x.write(1, block, 1);
            Scene.settle(x);
        }
        x.cut();
        x.write(1, 5, 2);
        x.crash(1);
        check.due("map before", x.map(1), Scene.blocks(5));
        check.due("log before", Scene.log(x, 1), "1,3,7");
        check.due("restart", x.restart(1), true);
        check.due("as a secondary, CRASHED", x.state(1), 9);
        check.due("all blocks of the LOG's extents", x.map(1), 0xf000f0f0);
        check.due("the LOG stays", Scene.log(x, 1), "1,3,7");
        check.due("disk", x.disk(1, 5), 2);
        check.due("generation", x.generation(1), Scene.generation(2, 1));
        check.due("restart again", x.restart(1), false);
    }

    private static void mapBeyondTheLog() {
        TwinVolume x = Scene.alone(0);
        for (int block = 0; block < 16; block += 4) {
            x.write(0, block, 1);
        }
        x.crash(0);
        x.restart(0);
        check.due("block 0 stays in the MAP", x.map(0), 0xfff1);
    }

    private static void crashedMarkStays() {
        TwinVolume x = Scene.alone(0);
        x.write(0, 0, 1);
        x.crash(0);
        x.restart(0);
        x.crash(0);
        check.due("CRASHED stays when a secondary goes down", x.state(0), 8);
        x.restart(0);
        check.due("state", x.state(0), 9);
        check.due("map", x.map(0), 0xf);
        check.due("promote", x.promote(0), 0);
        check.due("CRASHED stays at a PRIMARY", x.state(0), 11);
    }
}
