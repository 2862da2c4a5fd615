import java.util.ArrayList;
import java.util.List;
import java.util.TreeMap;

/**
 * "A call that is refused changes nothing": every call with every kind of argument in each of many scenes. What is
 * due is told by the plain model; a refused or reading call must leave no trace.
 */
public final class RefusalMatrixTest {
    private static final int[] NODES = {0, 1, -1, 2, Integer.MIN_VALUE, Integer.MAX_VALUE};
    private static final int[] BLOCKS = {0, 6, 16, 31, -1, 32, Integer.MIN_VALUE, Integer.MAX_VALUE};
    private static final int[] PLACES = {0, 1, 2, 3, 7, 8, -1, Integer.MIN_VALUE, Integer.MAX_VALUE};
    private static final int[] NUMBERS = {1, 2, 8, 299, 300, 301, 0, -1, Integer.MIN_VALUE, Integer.MAX_VALUE};
    private static final int[] NO_SECOND = {0};
    private static final int VALUE = 77;

    private static final String[] SCENES = {
        "",
        "promote 0",
        "promote 1, write 1 0 5, write 1 31 6",
        "promote 0, promote 1, write 0 4 1",
        "promote 0, write 0 0 1, write 0 4 1, write 0 8 1",
        "promote 0, write 0 1 1, demote 0, promote 1, write 1 2 1, demote 1",
        "promote 0, write 0 1 1, demote 0, promote 1",
        "promote 0, write 0 1 1, promote 1",
        "connect",
        "connect, promote 0, write 0 0 1, write 0 6 2",
        "connect, promote 1, write 1 0 1, write 1 1 2, barrier 1, write 1 2 3, deliver 1, deliver 1, deliver 1",
        "connect, promote 0, write 0 0 1, write 0 0 2, barrier 0, deliver 0, store 1 0",
        "connect, promote 0, write 0 0 1, write 0 4 1, write 0 8 1",
        "connect, promote 0, write 0 0 1, write 0 4 1, write 0 28 1, deliver 0, store 1 0, deliver 1",
        "connect, promote 0, write 0 0 1, write 0 1 1, write 0 2 1, write 0 3 1, write 0 4 1, write 0 5 1, write 0 8 1",
        "connect, promote 1, write 1 0 1, write 1 1 1, write 1 2 1, write 1 3 1, write 1 4 1, write 1 5 1, write 1 8 1,"
                + " write 1 9 1, deliver 1, deliver 1, store 0 1",
        "connect, promote 0, write 0 0 1, write 0 1 1, write 0 2 1, write 0 3 1, write 0 4 1, write 0 5 1, write 0 8 1,"
                + " write 0 9 1, barrier 0, deliver 0",
        "connect, promote 1, write 1 0 1, write 1 4 1, write 1 8 1, barrier 1, deliver 1",
        "connect, promote 0, write 0 0 1, write 0 0 2, write 0 0 3, deliver 0, deliver 0, deliver 0",
        "promote 0, write 0 0 1, write 0 1 1, write 0 2 1, write 0 3 1, write 0 4 1, write 0 31 1, connect, copy 0,"
                + " copy 0, copy 0, copy 0, deliver 0",
        "promote 0, write 0 6 1, write 0 31 1, connect, copy 0, write 0 31 2, write 0 8 3, deliver 0, deliver 0",
        "promote 1, write 1 6 1, demote 1, connect",
        "promote 0, write 0 6 1, connect, copy 0, deliver 0, deliver 1",
        "promote 0, write 0 6 1, connect, copy 0, deliver 0, deliver 1, deliver 0",
        "promote 0, write 0 6 1, connect, copy 0, deliver 0, cut",
        "promote 0, write 0 6 1, connect, write 0 7 1, cut, crash 1",
        "promote 0, write 0 6 1, crash 0",
        "promote 1, write 1 6 1, crash 1, crash 0",
        "connect, promote 0, write 0 6 1, crash 0, restart 0",
        "connect, promote 0, write 0 6 1, crash 0, restart 0, promote 1",
        "connect, promote 0, write 0 6 1, crash 0, restart 0, promote 0, write 0 20 1",
        "connect, promote 0, write 0 6 1, crash 0, restart 0, promote 1, connect, copy 1",
        "promote 0, crash 0, restart 0, promote 1, crash 1, restart 1",
        "promote 0, crash 0, restart 0, connect",
        "discard 0",
        "discard 1, promote 0, write 0 6 1, crash 1",
        "discard 1, connect, copy 0, copy 0, deliver 0",
        full("promote 0, promote 1"),
        full("promote 0") + ", connect, copy 0",
        full("connect, promote 0"),
    };

    private static final Check check = new Check("refusals");
    private static final TreeMap<String, Integer> refusals = new TreeMap<>();

    public static void main(String[] args) {
        for (String scene : SCENES) {
            for (String name : new String[] {"barrier", "deliver", "copy", "crash", "restart", "promote", "demote",
                "discard", "state", "generation", "map", "traffic"}) {
                callEach(scene, name, NODES, NO_SECOND);
            }
            callEach(scene, "write", NODES, BLOCKS);
            callEach(scene, "disk", NODES, BLOCKS);
            callEach(scene, "store", NODES, PLACES);
            callEach(scene, "log", NODES, PLACES);
            callEach(scene, "fate", NUMBERS, NO_SECOND);
            call(scene, "connect");
            call(scene, "cut");
        }
        everyRefusalWasMet();
        check.end();
    }

    /** 300 writes, some of them refused when the nodes are linked, as none arrives. */
    private static String full(String begin) {
        StringBuilder calls = new StringBuilder(begin);
        for (int k = 0; k < 300; k++) {
            calls.append(", write ").append(begin.endsWith("1") ? k % 2 : 0).append(' ').append(k % 12).append(" 1");
        }
        return calls.toString();
    }

    private static void callEach(String scene, String name, int[] firsts, int[] seconds) {
        for (int first : firsts) {
            for (int second : seconds) {
                switch (name) {
                    case "write" -> call(scene, name, first, second, VALUE);
                    case "disk", "store", "log" -> call(scene, name, first, second);
                    default -> call(scene, name, first);
                }
            }
        }
    }

    private static void call(String scene, String name, int... arguments) {
        PlainModel model = new PlainModel();
        for (String[] words : calls(scene)) {
            Calls.model(model, words[0], numbers(words));
        }
        long due = Calls.model(model, name, arguments);
        String what = Calls.text(name, arguments) + " after " + shortened(scene);
        check.due(what, Calls.real(play(scene), name, arguments), due);
        if (Calls.changesNothing(name, due)) {
            Twins.unchanged(check, what, () -> play(scene), x -> Calls.real(x, name, arguments));
            refusals.merge(name + " " + due, 1, Integer::sum);
        }
    }

    private static TwinVolume play(String scene) {
        TwinVolume x = new TwinVolume();
        for (String[] words : calls(scene)) {
            Calls.real(x, words[0], numbers(words));
        }
        return x;
    }

    private static List<String[]> calls(String scene) {
        List<String[]> calls = new ArrayList<>();
        for (String call : scene.isEmpty() ? new String[0] : scene.split(", ")) {
            calls.add(call.split(" "));
        }
        return calls;
    }

    private static int[] numbers(String[] words) {
        int[] numbers = new int[words.length - 1];
        for (int k = 0; k < numbers.length; k++) {
            numbers[k] = Integer.parseInt(words[k + 1]);
        }
        return numbers;
    }

    private static String shortened(String scene) {
        return scene.length() < 200 ? scene : scene.substring(0, 60) + " .. " + scene.substring(scene.length() - 60);
    }

    private static void everyRefusalWasMet() {
        String[] due = {
            "write -1", "write -2", "write -3", "write -4", "write -5", "barrier 0", "deliver 0", "store 0", "copy -1",
            "connect -2", "connect -7", "connect -8", "connect -9", "connect -10", "cut 0", "crash 0", "restart 0",
            "promote -1", "promote -2", "promote -6", "promote -7", "demote -1", "demote -2", "demote -3",
            "demote -5", "discard 0"};
        for (String refusal : due) {
            check.due(refusal + " was met", refusals.containsKey(refusal), true);
        }
    }
}
