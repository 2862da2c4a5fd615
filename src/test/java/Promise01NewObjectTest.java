/** Promise 1: a new object. */
public final class Promise01NewObjectTest {
    public static void main(String[] args) {
        Check check = new Check("promise 1");
        TwinVolume x = new TwinVolume();
        for (int node = 0; node < 2; node++) {
            check.due("state", x.state(node), 1);
            check.due("generation", x.generation(node), Scene.generation(1, 0));
            check.due("map", x.map(node), 0);
            check.due("log", Scene.log(x, node), "-1,-1,-1");
            check.due("traffic", x.traffic(node), 0);
            for (int block = 0; block < 32; block++) {
                check.due("disk", x.disk(node, block), 0);
            }
        }
        check.due("fate(1)", x.fate(1), 0);
        check.due("cut", x.cut(), false);
        objectsAreApart(check);
        check.end();
    }

    private static void objectsAreApart(Check check) {
        TwinVolume used = Scene.alone(0);
        used.write(0, 5, 6);
        used.connect();
        TwinVolume fresh = new TwinVolume();
        check.due("a later object", Scene.all(fresh), Scene.all(new TwinVolume()));
        check.due("first fresh number of a later object",
                Scene.alone(0).write(0, 5, 6), 1);
    }
}
