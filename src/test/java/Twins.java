import java.util.function.Function;
import java.util.function.Predicate;
import java.util.function.Supplier;
import java.util.function.ToLongFunction;

/**
 * Two objects with the same calls behind them, of which one is asked a call that must change nothing: whatever
 * is asked of both from then on, nothing may tell them apart. So what no reading call tells is seen too: which
 * messages are on the way, the epochs, a barrier, the next fresh number.
 */
final class Twins {
    private Twins() {
    }

    /** The call is refused with this answer and changes nothing. */
    static void refused(Check check, String what, Supplier<TwinVolume> scene, ToLongFunction<TwinVolume> call,
            long answer) {
        check.due(what, call.applyAsLong(scene.get()), answer);
        unchanged(check, what, scene, x -> call.applyAsLong(x));
    }

    /** The call answers false and changes nothing. */
    static void denied(Check check, String what, Supplier<TwinVolume> scene, Predicate<TwinVolume> call) {
        check.due(what, call.test(scene.get()), false);
        unchanged(check, what, scene, x -> call.test(x));
    }

    static void unchanged(Check check, String what, Supplier<TwinVolume> scene, Function<TwinVolume, Object> call) {
        same(check, what + ", then all that can be read", scene, call, Twins::read);
        same(check, what + ", then the fates of later writes", scene, call, Twins::readLaterFates);
        same(check, what + ", then all messages", scene, call, Twins::drain);
        same(check, what + ", then new writes", scene, call, x -> writeOn(x, 3, 2));
        same(check, what + ", then other new writes", scene, call, x -> writeOn(x, 1, 0));
        same(check, what + ", then a new write behind an ACK", scene, call, Twins::writeAfterAnAck);
        same(check, what + ", then writes of both nodes alone", scene, call, Twins::crashAndWrite);
        same(check, what + ", then an update", scene, call, Twins::update);
        same(check, what + ", then a whole update", scene, call, Twins::updateWhole);
    }

    private static void same(Check check, String what, Supplier<TwinVolume> scene, Function<TwinVolume, Object> call,
            Function<TwinVolume, String> later) {
        TwinVolume asked = scene.get();
        TwinVolume other = scene.get();
        call.apply(asked);
        check.due(what, later.apply(asked), later.apply(other));
    }

    // No probe has more than 205 calls, as a scene may have made 300 writes and an object has 512 calls alone.

    private static String read(TwinVolume x) {
        return Scene.all(x) + fates(x, 11, 110);
    }

    private static String readLaterFates(TwinVolume x) {
        return fates(x, 111, 301) + " " + x.fate(Integer.MAX_VALUE);
    }

    private static String fates(TwinVolume x, int first, int last) {
        StringBuilder seen = new StringBuilder();
        for (int write = first; write <= last; write++) {
            seen.append(' ').append(x.fate(write));
        }
        return seen.toString();
    }

    private static String drain(TwinVolume x) {
        StringBuilder seen = new StringBuilder();
        boolean moved = true;
        for (int round = 0; moved && round < 18; round++) {
            int[] answers = {x.deliver(0), x.deliver(1), x.store(0, 1), x.store(1, 1), x.store(0, 0), x.store(1, 0)};
            moved = false;
            for (int answer : answers) {
                seen.append(' ').append(answer);
                moved |= answer != 0;
            }
        }
        return seen + "; " + Scene.all(x);
    }

    /**
     * Two more writes in the extent used last, so that their epoch shows beside writes that wait already, if
     * none of these is to the same block.
     */
    private static String writeOn(TwinVolume x, int first, int second) {
        StringBuilder seen = new StringBuilder();
        for (int node = 0; node < 2; node++) {
            int extent = Math.max(x.log(node, 0), 0);
            seen.append(' ').append(x.write(node, 4 * extent + first, 1001));
            seen.append(' ').append(x.write(node, 4 * extent + second, 1002));
            for (int k = 0; k < 16; k++) {
                seen.append(' ').append(x.deliver(node));
            }
            for (int k = 10; k >= 0; k--) {
                seen.append(' ').append(x.store(1 - node, k));
            }
        }
        seen.append(' ').append(x.cut());
        return seen + brief(x);
    }

    /** As writeOn(..) where 8 writes were PENDING: one ACK makes room first. */
    private static String writeAfterAnAck(TwinVolume x) {
        StringBuilder seen = new StringBuilder();
        for (int node = 0; node < 2; node++) {
            int extent = Math.max(x.log(node, 0), 0);
            for (int k = 0; k < 13; k++) {
                seen.append(' ').append(x.deliver(node));
            }
            seen.append(' ').append(x.store(1 - node, 0));
            for (int k = 0; k < 13; k++) {
                seen.append(' ').append(x.deliver(1 - node));
            }
            for (int k = 3; k >= 0; k--) {
                seen.append(' ').append(x.write(node, 4 * extent + k, 1005));
                seen.append(' ').append(x.deliver(node));
            }
            for (int k = 10; k >= 0; k--) {
                seen.append(' ').append(x.store(1 - node, k));
            }
        }
        return seen + brief(x);
    }

    private static String crashAndWrite(TwinVolume x) {
        StringBuilder seen = new StringBuilder();
        for (int node = 0; node < 2; node++) {
            seen.append(' ').append(x.crash(node)).append(' ').append(x.restart(node));
            seen.append(' ').append(x.promote(node)).append(' ').append(x.write(node, 13, 1003 + node));
        }
        seen.append(brief(x));
        seen.append(' ').append(x.demote(0)).append(' ').append(x.connect());
        return seen + brief(x);
    }

    private static String update(TwinVolume x) {
        StringBuilder seen = new StringBuilder();
        seen.append(x.connect());
        for (int round = 0; round < 9; round++) {
            for (int k = 0; k < 5; k++) {
                seen.append(' ').append(x.copy(0)).append(' ').append(x.copy(1));
            }
            for (int k = 0; k < 5; k++) {
                seen.append(' ').append(x.deliver(0)).append(' ').append(x.deliver(1));
            }
        }
        return seen + brief(x);
    }

    /** Brings the nodes together whatever parted them, so that a later write shows the next fresh number. */
    private static String updateWhole(TwinVolume x) {
        StringBuilder seen = new StringBuilder();
        seen.append(x.cut());
        for (int node = 0; node < 2; node++) {
            seen.append(' ').append(x.restart(node)).append(' ').append(x.demote(node));
            seen.append(' ').append(x.discard(node));
        }
        seen.append(' ').append(x.connect());
        for (int round = 0; round < 8; round++) {
            for (int k = 0; k < 4; k++) {
                seen.append(' ').append(x.copy(0)).append(' ').append(x.copy(1));
            }
            for (int k = 0; k < 4; k++) {
                seen.append(' ').append(x.deliver(0)).append(' ').append(x.deliver(1));
                seen.append(' ').append(x.deliver(0));
            }
        }
        seen.append(' ').append(x.deliver(1)).append(' ').append(x.cut());
        seen.append(' ').append(x.promote(0)).append(' ').append(x.write(0, 14, 1006));
        seen.append(' ').append(x.promote(1)).append(' ').append(x.write(1, 14, 1007));
        return seen + brief(x);
    }

    private static String brief(TwinVolume x) {
        StringBuilder seen = new StringBuilder();
        for (int node = 0; node < 2; node++) {
            seen.append("; state ").append(x.state(node)).append(" generation ").append(x.generation(node));
            seen.append(" map ").append(x.map(node)).append(" log ").append(Scene.log(x, node));
            seen.append(" traffic ").append(x.traffic(node));
        }
        return seen.toString();
    }
}
