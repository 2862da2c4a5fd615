/** Promise 11: promote. */
public final class Promise11PromoteTest {
    private static final Check check = new Check("promise 11");

    public static void main(String[] args) {
        bad();
        down();
        unsound();
        rival();
        becomesPrimary();
        check.end();
    }

    private static void bad() {
        TwinVolume x = new TwinVolume();
        String before = Scene.all(x);
        for (int node : Scene.NO_NODES) {
            check.due("promote of no node", x.promote(node), TwinVolume.BAD);
        }
        check.due("after BAD", Scene.all(x), before);
    }

    private static void down() {
        TwinVolume x = new TwinVolume();
        x.discard(0);
        x.crash(0);
        String before = Scene.all(x);
        check.due("DOWN is looked at before UNSOUND", x.promote(0), TwinVolume.DOWN);
        check.due("after DOWN", Scene.all(x), before);
    }

    private static void unsound() {
        TwinVolume x = Scene.source(3);
        String before = Scene.all(x);
        check.due("UNSOUND is looked at before RIVAL", x.promote(1), TwinVolume.UNSOUND);
        check.due("after UNSOUND", Scene.all(x), before);
        x.cut();
        check.due("TORN when not linked", x.promote(1), TwinVolume.UNSOUND);
        x.connect();
        Scene.update(x);
        x.demote(0);
        check.due("TORN no longer", x.promote(1), 0);
    }

    private static void rival() {
        TwinVolume x = Scene.linked(1);
        String before = Scene.all(x);
        check.due("promote", x.promote(0), TwinVolume.RIVAL);
        check.due("after RIVAL", Scene.all(x), before);
        x.cut();
        check.due("two PRIMARY nodes that are not linked", x.promote(0), 0);
        check.due("state", x.state(0) + x.state(1), 6);
    }

    private static void becomesPrimary() {
        for (int node = 0; node < 2; node++) {
            TwinVolume x = new TwinVolume();
            check.due("promote", x.promote(node), 0);
            check.due("state", x.state(node), 3);
            String before = Scene.all(x);
            check.due("promote again", x.promote(node), 0);
            check.due("after promote again", Scene.all(x), before);
            x.connect();
            check.due("promote of the linked PRIMARY", x.promote(node), 0);
        }
    }
}
