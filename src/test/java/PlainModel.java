import java.util.ArrayList;
import java.util.List;
import java.util.TreeSet;

/** The document told a second time, with sets and lists and no care for speed. */
final class PlainModel {
    private static final class Write {
        int number;
        Side side;
        int block;
        int value;
        int epoch;
        String fate;
    }

    private static final class Message {
        final String kind;
        final Write write;
        final int number;
        final int value;

        Message(String kind, Write write, int number, int value) {
            this.kind = kind;
            this.write = write;
            this.number = number;
            this.value = value;
        }
    }

    private static final class Side {
        final int[] disk = new int[32];
        TreeSet<Integer> map = new TreeSet<>();
        final List<Integer> log = new ArrayList<>();
        int current = 1;
        int base = 0;
        boolean torn;
        boolean crashed;
        boolean up = true;
        boolean primary;
        boolean source;
        boolean target;
        boolean barrier;
        Write last;
        final List<Message> sent = new ArrayList<>();
        final List<Write> waiting = new ArrayList<>();
        final TreeSet<Integer> underWay = new TreeSet<>();
    }

    private static final List<String> KINDS = List.of("DATA", "ACK", "COPY", "COPIED", "FINISH");
    private static final List<String> FATES = List.of("PENDING", "ACKNOWLEDGED", "ALONE", "LOST");

    private final Side[] sides = {new Side(), new Side()};
    private final List<Write> writes = new ArrayList<>();
    private boolean linked;
    private int greatest = 1;

    private static boolean bad(int node) {
        return node < 0 || node > 1;
    }

    private Side peer(Side side) {
        return side == sides[0] ? sides[1] : sides[0];
    }

    private List<Write> of(Side side, String fate) {
        return writes.stream().filter(w -> w.side == side && w.fate.equals(fate)).toList();
    }

    private boolean pendingInExtent(Side side, int extent) {
        return of(side, "PENDING").stream().anyMatch(w -> w.block / 4 == extent);
    }

    private boolean pendingAtBlock(Side side, int block) {
        return of(side, "PENDING").stream().anyMatch(w -> w.block == block);
    }

    int write(int node, int block, int value) {
        if (bad(node) || block < 0 || block > 31) return -1;
        Side s = sides[node];
        if (!s.up) return -2;
        if (!s.primary) return -3;
        if (writes.size() == 300 || of(s, "PENDING").size() == 8) return -4;
        Integer extent = block / 4;
        if (!s.log.contains(extent) && s.log.size() == 3
                && s.log.stream().allMatch(e -> pendingInExtent(s, e))) return -5;
        if (s.log.contains(extent)) {
            s.log.remove(extent);
        } else if (s.log.size() == 3) {
            Integer out = s.log.stream().filter(e -> !pendingInExtent(s, e)).reduce((a, b) -> b).get();
            s.log.remove(out);
        }
        s.log.add(0, extent);
        Write w = new Write();
        w.number = writes.size() + 1;
        w.side = s;
        w.block = block;
        w.value = value;
        if (s.last == null) {
            w.epoch = 1;
        } else {
            w.epoch = s.last.epoch + (s.barrier || pendingAtBlock(s, block) ? 1 : 0);
        }
        s.barrier = false;
        s.last = w;
        s.disk[block] = value;
        writes.add(w);
        w.fate = "PENDING";
        if (linked) {
            s.sent.add(new Message("DATA", w, 0, 0));
        } else {
            alone(w);
        }
        return w.number;
    }

    private void alone(Write w) {
        w.fate = "ALONE";
        w.side.map.add(w.block);
        if (w.side.base == 0) {
            w.side.base = w.side.current;
            w.side.current = ++greatest;
        }
    }

    private void breakLink() {
        linked = false;
        for (Side s : sides) {
            s.sent.clear();
            s.waiting.clear();
            s.underWay.clear();
            s.source = false;
            s.target = false;
        }
        writes.stream().filter(w -> w.fate.equals("PENDING")).forEach(this::alone);
    }

    private void end(Side s) {
        s.source = false;
        s.crashed = false;
        s.base = 0;
        of(s, "ALONE").forEach(w -> w.fate = "ACKNOWLEDGED");
        s.sent.add(new Message("FINISH", null, s.current, 0));
    }

    boolean barrier(int node) {
        if (bad(node) || !sides[node].up || !sides[node].primary) return false;
        sides[node].barrier = true;
        return true;
    }

    int deliver(int from) {
        if (bad(from) || sides[from].sent.isEmpty()) return 0;
        Message m = sides[from].sent.remove(0);
        Side s = sides[1 - from];
        if (m.kind.equals("DATA")) {
            s.waiting.add(m.write);
        } else if (m.kind.equals("ACK")) {
            m.write.fate = "ACKNOWLEDGED";
            if (s.source) {
                s.map.remove(m.write.block);
                if (s.map.isEmpty()) end(s);
            }
        } else if (m.kind.equals("COPY")) {
            s.disk[m.number] = m.value;
            s.sent.add(new Message("COPIED", null, m.number, 0));
        } else if (m.kind.equals("COPIED")) {
            s.underWay.remove(m.number);
            s.map.remove(m.number);
            if (s.map.isEmpty()) end(s);
        } else {
            s.target = false;
            s.torn = false;
            s.crashed = false;
            s.map.clear();
            s.current = m.number;
            s.base = 0;
        }
        return KINDS.indexOf(m.kind) + 1;
    }

    int store(int node, int k) {
        if (bad(node)) return 0;
        Side s = sides[node];
        int earliest = s.waiting.stream().mapToInt(w -> w.epoch).min().orElse(0);
        List<Write> choice = s.waiting.stream().filter(w -> w.epoch == earliest).toList();
        if (k < 0 || k >= choice.size()) return 0;
        Write w = choice.get(k);
        s.waiting.remove(w);
        s.disk[w.block] = w.value;
        s.sent.add(new Message("ACK", w, 0, 0));
        return w.number;
    }

    int copy(int node) {
        if (bad(node) || !sides[node].source || sides[node].underWay.size() == 4) return -1;
        Side s = sides[node];
        for (int block : s.map) {
            if (!s.underWay.contains(block) && !pendingAtBlock(s, block)) {
                s.underWay.add(block);
                s.sent.add(new Message("COPY", null, block, s.disk[block]));
                return block;
            }
        }
        return -1;
    }

    int connect() {
        Side a = sides[0];
        Side b = sides[1];
        if (!a.up || !b.up) return -2;
        if (linked) return -9;
        if (a.primary && b.primary) return -7;
        Side source = null;
        if (a.torn && b.torn) {
            throw new IllegalStateException("both are TORN");
        } else if (a.torn) {
            source = b;
        } else if (b.torn) {
            source = a;
        } else if (a.current != b.current) {
            if (a.base == b.current) source = a;
            else if (b.base == a.current) source = b;
            else return -8;
        } else if (a.crashed || b.crashed) {
            if (a.primary) source = a;
            else if (b.primary) source = b;
            else if (a.crashed && !b.crashed) source = a;
            else if (b.crashed && !a.crashed) source = b;
            else source = a;
        }
        if (source == null) {
            linked = true;
            return 0;
        }
        Side target = peer(source);
        if (target.primary) return -10;
        linked = true;
        if (target.current == 0 || target.current != source.current && target.current != source.base) {
            for (int block = 0; block < 32; block++) {
                source.map.add(block);
            }
        } else {
            source.map.addAll(target.map);
        }
        source.source = true;
        target.target = true;
        target.torn = true;
        if (source.map.isEmpty()) end(source);
        return source == a ? 1 : 2;
    }

    boolean cut() {
        if (!linked) return false;
        breakLink();
        return true;
    }

    boolean crash(int node) {
        if (bad(node) || !sides[node].up) return false;
        Side s = sides[node];
        s.up = false;
        of(s, "PENDING").forEach(w -> w.fate = "LOST");
        of(s, "ALONE").forEach(w -> w.fate = "LOST");
        s.crashed |= s.primary;
        s.primary = false;
        if (linked) breakLink();
        return true;
    }

    boolean restart(int node) {
        if (bad(node) || sides[node].up) return false;
        Side s = sides[node];
        s.up = true;
        if (s.crashed) {
            for (int block = 0; block < 32; block++) {
                if (s.log.contains(block / 4)) s.map.add(block);
            }
        }
        return true;
    }

    int promote(int node) {
        if (bad(node)) return -1;
        Side s = sides[node];
        if (!s.up) return -2;
        if (s.torn) return -6;
        if (linked && peer(s).primary) return -7;
        s.primary = true;
        return 0;
    }

    int demote(int node) {
        if (bad(node)) return -1;
        Side s = sides[node];
        if (!s.up) return -2;
        if (!s.primary) return -3;
        if (!of(s, "PENDING").isEmpty()) return -5;
        s.primary = false;
        return 0;
    }

    boolean discard(int node) {
        if (bad(node)) return false;
        Side s = sides[node];
        if (!s.up || s.primary || linked || peer(s).torn) return false;
        s.torn = true;
        s.crashed = false;
        s.current = 0;
        s.base = 0;
        s.map.clear();
        of(s, "ALONE").forEach(w -> w.fate = "LOST");
        return true;
    }

    int disk(int node, int block) {
        return bad(node) || block < 0 || block > 31 ? 0 : sides[node].disk[block];
    }

    int fate(int write) {
        return write < 1 || write > writes.size() ? 0 : FATES.indexOf(writes.get(write - 1).fate) + 1;
    }

    int state(int node) {
        if (bad(node)) return -1;
        Side s = sides[node];
        boolean[] marks = {s.up, s.primary, s.torn, s.crashed, linked, s.source, s.target};
        int sum = 0;
        for (int k = 0; k < marks.length; k++) {
            if (marks[k]) sum += 1 << k;
        }
        return sum;
    }

    long generation(int node) {
        return bad(node) ? 0 : sides[node].current * 4294967296L + sides[node].base;
    }

    int map(int node) {
        return bad(node) ? 0 : sides[node].map.stream().mapToInt(block -> 1 << block).sum();
    }

    int log(int node, int k) {
        return bad(node) || k < 0 || k >= sides[node].log.size() ? -1 : sides[node].log.get(k);
    }

    int traffic(int node) {
        if (bad(node)) return 0;
        Side s = sides[node];
        return s.sent.size() + 100 * s.waiting.size() + 10000 * s.underWay.size();
    }
}
