/** Calls by their names, so that the program and the plain model are asked the same; a boolean counts 1 or 0. */
final class Calls {
    private Calls() {
    }

    static long real(TwinVolume x, String name, int... a) {
        return switch (name) {
            case "write" -> x.write(a[0], a[1], a[2]);
            case "barrier" -> bit(x.barrier(a[0]));
            case "deliver" -> x.deliver(a[0]);
            case "store" -> x.store(a[0], a[1]);
            case "copy" -> x.copy(a[0]);
            case "connect" -> x.connect();
            case "cut" -> bit(x.cut());
            case "crash" -> bit(x.crash(a[0]));
            case "restart" -> bit(x.restart(a[0]));
            case "promote" -> x.promote(a[0]);
            case "demote" -> x.demote(a[0]);
            case "discard" -> bit(x.discard(a[0]));
            case "disk" -> x.disk(a[0], a[1]);
            case "fate" -> x.fate(a[0]);
            case "state" -> x.state(a[0]);
            case "generation" -> x.generation(a[0]);
            case "map" -> x.map(a[0]);
            case "log" -> x.log(a[0], a[1]);
            case "traffic" -> x.traffic(a[0]);
            default -> throw new IllegalArgumentException(name);
        };
    }

    static long model(PlainModel x, String name, int... a) {
        return switch (name) {
            case "write" -> x.write(a[0], a[1], a[2]);
            case "barrier" -> bit(x.barrier(a[0]));
            case "deliver" -> x.deliver(a[0]);
            case "store" -> x.store(a[0], a[1]);
            case "copy" -> x.copy(a[0]);
            case "connect" -> x.connect();
            case "cut" -> bit(x.cut());
            case "crash" -> bit(x.crash(a[0]));
            case "restart" -> bit(x.restart(a[0]));
            case "promote" -> x.promote(a[0]);
            case "demote" -> x.demote(a[0]);
            case "discard" -> bit(x.discard(a[0]));
            case "disk" -> x.disk(a[0], a[1]);
            case "fate" -> x.fate(a[0]);
            case "state" -> x.state(a[0]);
            case "generation" -> x.generation(a[0]);
            case "map" -> x.map(a[0]);
            case "log" -> x.log(a[0], a[1]);
            case "traffic" -> x.traffic(a[0]);
            default -> throw new IllegalArgumentException(name);
        };
    }

    /** Whether the answer says that the call was refused or did nothing; reading calls never do anything. */
    static boolean changesNothing(String name, long answer) {
        return switch (name) {
            case "write", "connect", "promote", "demote", "copy" -> answer < 0;
            case "barrier", "deliver", "store", "cut", "crash", "restart", "discard" -> answer == 0;
            default -> true;
        };
    }

    static String text(String name, int... arguments) {
        StringBuilder text = new StringBuilder(name);
        for (int argument : arguments) {
            text.append(' ').append(argument);
        }
        return text.toString();
    }

    private static long bit(boolean answer) {
        return answer ? 1 : 0;
    }
}
