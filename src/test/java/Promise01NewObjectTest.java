/** Promise 1: a new object. */
public final class Promise01NewObjectTest {
    private static final Check check = new Check("promise 1");

    public static void main(String[] args) {
        readsAsTold();
        nothingCanBeDoneYet();
        firstFreshNumberIsTwo();
        firstNumberIsOne();
        objectsAreApart();
        check.end();
    }

    private static void readsAsTold() {
        TwinVolume x = new TwinVolume();
        for (int node : Scene.NODES) {
            check.due("up, secondary, not linked, no mark", x.state(node), 1);
            check.due("CURRENT is 1, BASE is 0", x.generation(node), 4294967296L);
            check.due("the MAP is empty", x.map(node), 0);
            check.due("the LOG is empty", Scene.log(x, node), "-1,-1,-1");
            check.due("nothing is on the way", x.traffic(node), 0);
            for (int block = 0; block < 32; block++) {
                check.due("disk", x.disk(node, block), 0);
            }
        }
        check.due("no write of number 0", x.fate(0), 0);
        check.due("no write of number 1", x.fate(1), 0);
    }

    private static void nothingCanBeDoneYet() {
        for (int node : Scene.NODES) {
            Twins.refused(check, "write", TwinVolume::new, x -> x.write(node, 0, 1), TwinVolume.SECONDARY);
            Twins.denied(check, "barrier", TwinVolume::new, x -> x.barrier(node));
            Twins.refused(check, "deliver", TwinVolume::new, x -> x.deliver(node), 0);
            Twins.refused(check, "store", TwinVolume::new, x -> x.store(node, 0), 0);
            Twins.refused(check, "copy", TwinVolume::new, x -> x.copy(node), -1);
            Twins.denied(check, "restart", TwinVolume::new, x -> x.restart(node));
            Twins.refused(check, "demote", TwinVolume::new, x -> x.demote(node), TwinVolume.SECONDARY);
        }
        Twins.denied(check, "cut", TwinVolume::new, x -> x.cut());
    }

    private static void firstFreshNumberIsTwo() {
        for (int node : Scene.NODES) {
            TwinVolume x = Scene.alone(node);
            x.write(node, 5, 6);
            check.due("the first fresh number", x.generation(node), Scene.generation(2, 1));
        }
    }

    private static void firstNumberIsOne() {
        for (int node : Scene.NODES) {
            check.due("the first write alone", Scene.alone(node).write(node, 5, 6), 1);
            check.due("the first write of a linked node", Scene.linked(node).write(node, 5, 6), 1);
        }
    }

    private static void objectsAreApart() {
        String untouched = Scene.all(new TwinVolume());
        TwinVolume used = Scene.source(3, 31);
        used.copy(0);
        check.due("an object made after another was used", Scene.all(new TwinVolume()), untouched);
        TwinVolume older = new TwinVolume();
        Scene.eightPending(0);
        check.due("an object made before another was used", Scene.all(older), untouched);
    }
}
