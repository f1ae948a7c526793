import java.util.ArrayList;
import java.util.Comparator;
import java.util.HashMap;
import java.util.HashSet;
import java.util.List;
import java.util.Map;
import java.util.NoSuchElementException;
import java.util.Set;
import java.util.TreeSet;

/** The document told once more, in other words: slow, by lists, sets and paths, with which runs are compared. */
final class Model {
    record Kind(char type, int width, int drive, int load, int leak, int delay) {
    }

    static final class Cell {
        int kind;
        int net = -1;
        final int[] in = {-1, -1};
        int place = -1;
        boolean turned;
        int wish = -1;
        boolean isFalse;
        int cycles = 1;
        int skew;
        int domain;
        boolean putIn;
    }

    record Path(int start, int late, int early) {
    }

    record Shape(int layer, int line, int track, int from, int to, int net) {
        boolean covers(int place) {
            int row = place / 24;
            int x = place % 24;
            return layer == 0 ? row == line && from <= x && x <= to : x == line && from <= row && row <= to;
        }

        boolean sameTrack(Shape o) {
            return layer == o.layer && line == o.line && track == o.track;
        }

        Set<Integer> places() {
            Set<Integer> all = new TreeSet<>();
            for (int p = 0; p < 144; p++) {
                if (covers(p)) {
                    all.add(p);
                }
            }
            return all;
        }
    }

    static final class Node {
        int x;
        int row;
        int delay;
        Node parent;
    }

    private final List<Kind> kinds = new ArrayList<>();
    private final List<Cell> cells = new ArrayList<>();
    private final List<int[]> nets = new ArrayList<>();
    private final List<Integer> inputs = new ArrayList<>();
    private final List<int[]> outputs = new ArrayList<>();
    private final Set<Integer> blocked = new HashSet<>();
    private int period = 100;
    private int derate;
    private int across = 4;
    private int down = 3;
    private int gap = 1;
    private int[] rules = {1, 0, 100, 99};
    private List<Node> leaves;
    private Node root;
    private final List<Integer> chain = new ArrayList<>();
    private List<Set<Integer>> wires;
    private Map<Integer, Integer> history = new HashMap<>();
    private final List<Shape> shapes = new ArrayList<>();
    private boolean whole;

    private static void bounds(boolean is) {
        if (is) {
            throw new IndexOutOfBoundsException();
        }
    }

    private static void illegal(boolean is) {
        if (is) {
            throw new IllegalArgumentException();
        }
    }

    private static void unsupported(boolean is) {
        if (is) {
            throw new UnsupportedOperationException();
        }
    }

    private static void state(boolean is) {
        if (is) {
            throw new IllegalStateException();
        }
    }

    private static boolean out(int n, int a, int b) {
        return n < a || n > b;
    }

    private boolean noCell(int c) {
        return out(c, 0, cells.size() - 1);
    }

    private boolean noNet(int n) {
        return out(n, 0, nets.size() - 1);
    }

    private char type(int c) {
        return kinds.get(cells.get(c).kind).type();
    }

    boolean isLike(int c, int other) {
        return type(c) == type(other) && c != other;
    }

    private int width(int c) {
        return kinds.get(cells.get(c).kind).width();
    }

    private void gone() {
        leaves = null;
        root = null;
        chain.clear();
        wires = null;
        shapes.clear();
        whole = false;
    }

    int addKind(char type, int width, int drive, int load, int leak, int delay) {
        illegal("binoxlfd".indexOf(type) < 0 || out(width, 1, 4) || out(drive, 1, 9) || out(load, 1, 9)
                || out(leak, 0, 99) || out(delay, 0, 99));
        state(kinds.size() == 12);
        kinds.add(new Kind(type, width, drive, load, leak, delay));
        return kinds.size() - 1;
    }

    int addCell(int kind) {
        bounds(out(kind, 0, kinds.size() - 1));
        state(cells.size() == 18);
        gone();
        Cell c = new Cell();
        c.kind = kind;
        cells.add(c);
        if (kinds.get(kind).type() != 'd') {
            c.net = nets.size();
            nets.add(new int[] {cells.size() - 1, -1});
        }
        return cells.size() - 1;
    }

    int addInput(int row) {
        illegal(out(row, 0, 5));
        state(inputs.size() == 6);
        gone();
        nets.add(new int[] {-1, inputs.size()});
        inputs.add(row);
        return nets.size() - 1;
    }

    int addOutput(int net, int row) {
        bounds(noNet(net));
        illegal(out(row, 0, 5));
        state(outputs.size() == 6);
        gone();
        outputs.add(new int[] {net, row});
        return outputs.size() - 1;
    }

    int netOf(int c) {
        bounds(noCell(c));
        if (cells.get(c).net < 0) {
            throw new NoSuchElementException();
        }
        return cells.get(c).net;
    }

    private int pinCount(int c) {
        return "nox".indexOf(type(c)) >= 0 ? 2 : 1;
    }

    private boolean reaches(int net, int cell) {
        int d = nets.get(net)[0];
        if (d < 0 || type(d) == 'f') {
            return false;
        }
        if (d == cell) {
            return true;
        }
        for (int n : cells.get(d).in) {
            if (n >= 0 && reaches(n, cell)) {
                return true;
            }
        }
        return false;
    }

    int connect(int c, int input, int net) {
        bounds(noCell(c) || out(input, 0, pinCount(c) - 1) || noNet(net));
        unsupported(type(c) != 'f' && type(c) != 'd' && reaches(net, c));
        gone();
        int before = cells.get(c).in[input];
        cells.get(c).in[input] = net;
        cells.get(c).putIn = false;
        return before;
    }

    int setKind(int c, int kind) {
        bounds(noCell(c) || out(kind, 0, kinds.size() - 1));
        unsupported(kinds.get(kind).type() != type(c) || kinds.get(kind).width() != width(c));
        int before = cells.get(c).kind;
        cells.get(c).kind = kind;
        return before;
    }

    int value(int net, int in, int states) {
        bounds(noNet(net));
        return bit(net, in, states) ? 1 : 0;
    }

    private boolean bit(int net, int in, int states) {
        if (net < 0) {
            return false;
        }
        int d = nets.get(net)[0];
        if (d < 0) {
            return (in >> nets.get(net)[1]) % 2 != 0;
        }
        if (type(d) == 'f') {
            return (states >> d) % 2 != 0;
        }
        boolean a = bit(cells.get(d).in[0], in, states);
        boolean b = bit(cells.get(d).in[1], in, states);
        return switch (type(d)) {
            case 'i' -> !a;
            case 'n' -> !(a && b);
            case 'o' -> !(a || b);
            case 'x' -> a != b;
            default -> a;
        };
    }

    int block(int x, int row, int width, int halo) {
        illegal(out(x, 0, 23) || out(row, 0, 5) || out(width, 1, 24) || out(halo, 0, 3) || x + width > 24);
        for (int s = Math.max(0, x - halo); s < Math.min(24, x + width + halo); s++) {
            blocked.add(24 * row + s);
        }
        return (int) blocked.stream().filter(p -> p / 24 == row).count();
    }

    private Set<Integer> sites(int c) {
        Set<Integer> all = new HashSet<>();
        for (int i = 0; cells.get(c).place >= 0 && i < width(c); i++) {
            all.add(cells.get(c).place + i);
        }
        return all;
    }

    private boolean fits(int width, int x, int row, Set<Integer> apart) {
        if (x + width > 24) {
            return false;
        }
        for (int s = 24 * row + x; s < 24 * row + x + width; s++) {
            if (blocked.contains(s)) {
                return false;
            }
            for (int c = 0; c < cells.size(); c++) {
                if (!apart.contains(c) && sites(c).contains(s)) {
                    return false;
                }
            }
        }
        return true;
    }

    int place(int c, int x, int row, boolean turned) {
        bounds(noCell(c));
        illegal(out(x, 0, 23) || out(row, 0, 5));
        unsupported(!fits(width(c), x, row, Set.of(c)));
        gone();
        int before = cells.get(c).place;
        cells.get(c).place = 24 * row + x;
        cells.get(c).turned = turned;
        return before;
    }

    int placeOf(int c) {
        bounds(noCell(c));
        if (cells.get(c).place < 0) {
            throw new NoSuchElementException();
        }
        return cells.get(c).place;
    }

    int wish(int c, int x, int row) {
        bounds(noCell(c));
        illegal(out(x, 0, 23) || out(row, 0, 5));
        int before = cells.get(c).wish;
        cells.get(c).wish = 24 * row + x;
        return before;
    }

    int legalize(int row) {
        illegal(out(row, 0, 5));
        List<Integer> queue = new ArrayList<>();
        for (int c = 0; c < cells.size(); c++) {
            if (cells.get(c).wish >= 0 && cells.get(c).wish / 24 == row) {
                queue.add(c);
            }
        }
        queue.sort(Comparator.comparingInt((Integer c) -> cells.get(c).wish).thenComparingInt(c -> c));
        Map<Integer, List<Integer>> memo = new HashMap<>();
        List<Integer> best = bestFrom(queue, 0, 0, row, memo);
        unsupported(best == null);
        if (queue.isEmpty()) {
            return 0;
        }
        gone();
        for (int i = 0; i < queue.size(); i++) {
            cells.get(queue.get(i)).place = 24 * row + best.get(i + 1);
            cells.get(queue.get(i)).turned = false;
        }
        return best.get(0);
    }

    /** The sum, then the sites of all cells from an index on, from a site on; null if they do not fit. */
    private List<Integer> bestFrom(List<Integer> queue, int i, int from, int row, Map<Integer, List<Integer>> memo) {
        if (i == queue.size()) {
            return List.of(0);
        }
        int key = 100 * i + from;
        if (memo.containsKey(key)) {
            return memo.get(key);
        }
        List<Integer> best = null;
        int c = queue.get(i);
        for (int x = 23; x >= from; x--) {
            if (!fits(width(c), x, row, new HashSet<>(queue))) {
                continue;
            }
            List<Integer> rest = bestFrom(queue, i + 1, x + width(c), row, memo);
            if (rest == null) {
                continue;
            }
            int sum = Math.abs(x - cells.get(c).wish % 24) + rest.get(0);
            if (best == null || sum <= best.get(0)) {
                best = new ArrayList<>();
                best.add(sum);
                best.add(x);
                best.addAll(rest.subList(1, rest.size()));
            }
        }
        memo.put(key, best);
        return best;
    }

    int improve() {
        int count = 0;
        boolean found = true;
        while (found && count < 40) {
            found = false;
            int before = allLength();
            search:
            for (int a = 0; a < cells.size(); a++) {
                for (int b = a + 1; b < cells.size(); b++) {
                    Cell one = cells.get(a);
                    Cell two = cells.get(b);
                    if (one.place < 0 || two.place < 0 || width(a) != width(b)) {
                        continue;
                    }
                    int p = one.place;
                    one.place = two.place;
                    two.place = p;
                    if (allLength() < before) {
                        found = true;
                        count++;
                        gone();
                        break search;
                    }
                    two.place = one.place;
                    one.place = p;
                }
            }
        }
        return count;
    }

    private int inPlace(int c) {
        Cell cell = cells.get(c);
        return cell.place < 0 ? -1 : cell.turned ? cell.place + width(c) - 1 : cell.place;
    }

    private int outPlace(int c) {
        Cell cell = cells.get(c);
        return cell.place < 0 ? -1 : cell.turned ? cell.place : cell.place + width(c) - 1;
    }

    private int driverPlace(int net) {
        int d = nets.get(net)[0];
        return d >= 0 ? outPlace(d) : 24 * inputs.get(nets.get(net)[1]);
    }

    private TreeSet<Integer> pinPlaces(int net) {
        TreeSet<Integer> all = new TreeSet<>();
        all.add(driverPlace(net));
        for (int c = 0; c < cells.size(); c++) {
            for (int n : cells.get(c).in) {
                if (n == net) {
                    all.add(inPlace(c));
                }
            }
        }
        for (int[] o : outputs) {
            if (o[0] == net) {
                all.add(24 * o[1] + 23);
            }
        }
        all.remove(-1);
        return all;
    }

    int length(int net) {
        bounds(noNet(net));
        int most = 0;
        int mostRows = 0;
        for (int p : pinPlaces(net)) {
            for (int q : pinPlaces(net)) {
                most = Math.max(most, p % 24 - q % 24);
                mostRows = Math.max(mostRows, p / 24 - q / 24);
            }
        }
        return most + mostRows;
    }

    int allLength() {
        int sum = 0;
        for (int n = 0; n < nets.size(); n++) {
            sum += length(n);
        }
        return sum;
    }

    int setPeriod(int p) {
        illegal(out(p, 1, 999));
        int before = period;
        period = p;
        return before;
    }

    boolean setFalse(int c, boolean is) {
        bounds(noCell(c));
        boolean before = cells.get(c).isFalse;
        cells.get(c).isFalse = is;
        return before;
    }

    int setCycles(int c, int cycles) {
        bounds(noCell(c));
        illegal(out(cycles, 1, 4));
        unsupported(type(c) != 'f');
        int before = cells.get(c).cycles;
        cells.get(c).cycles = cycles;
        return before;
    }

    int setDerate(int d) {
        illegal(out(d, 0, 50));
        int before = derate;
        derate = d;
        return before;
    }

    private int loadOf(int net) {
        int load = 0;
        for (Cell c : cells) {
            for (int n : c.in) {
                load += n == net ? kinds.get(c.kind).load() : 0;
            }
        }
        for (int[] o : outputs) {
            load += o[0] == net ? 2 : 0;
        }
        return load + (wires != null ? wires.get(net).size() : length(net)) / 2;
    }

    private int delayOf(int c, int corner) {
        Kind k = kinds.get(cells.get(c).kind);
        int load = loadOf(cells.get(c).net);
        int at8 = 16 / k.drive();
        int at32 = 80 / k.drive();
        double table = load <= 8 ? at8 * load / 8.0 : at8 + (at32 - at8) * (load - 8) / 24.0;
        int cut = (int) Math.floor(table + 1e-9);
        return (k.delay() + cut) * new int[] {80, 100, 120}[corner] / 100;
    }

    private int later(int time) {
        return time + time * derate / 100;
    }

    private int clock(int c) {
        return (root == null ? 0 : root.delay) + cells.get(c).skew;
    }

    /** All paths to a net; what is late has the deltas of all nets that it goes along. */
    private List<Path> paths(int net, int corner, int[] deltas) {
        List<Path> all = new ArrayList<>();
        if (net < 0) {
            return all;
        }
        int d = nets.get(net)[0];
        if (d < 0) {
            all.add(new Path(-1, deltas[net], 0));
            return all;
        }
        if (cells.get(d).isFalse) {
            return all;
        }
        int delay = delayOf(d, corner);
        if (type(d) == 'f') {
            all.add(new Path(d, later(clock(d)) + delay + deltas[net], clock(d) + delay));
            return all;
        }
        for (int n : cells.get(d).in) {
            for (Path p : paths(n, corner, deltas)) {
                all.add(new Path(p.start(), p.late() + later(delay) + deltas[net], p.early() + delay));
            }
        }
        return all;
    }

    private int[] deltas() {
        int[] deltas = new int[nets.size()];
        if (shapes.isEmpty()) {
            return deltas;
        }
        for (int i = 0; i < 4; i++) {
            int[][] windows = new int[nets.size()][];
            for (int n = 0; n < nets.size(); n++) {
                List<Path> paths = paths(n, 1, deltas);
                if (!paths.isEmpty()) {
                    windows[n] = new int[] {paths.stream().mapToInt(Path::early).min().getAsInt(),
                        paths.stream().mapToInt(Path::late).max().getAsInt()};
                }
            }
            int[] next = new int[nets.size()];
            for (int n = 0; n < nets.size(); n++) {
                int sum = 0;
                for (int m = 0; m < nets.size(); m++) {
                    if (m != n && windows[n] != null && windows[m] != null && windows[n][0] <= windows[m][1]
                            && windows[m][0] <= windows[n][1]) {
                        sum += coupling(n, m);
                    }
                }
                next[n] = sum / 2;
            }
            deltas = next;
        }
        return deltas;
    }

    int late(int net, int corner) {
        bounds(noNet(net));
        illegal(out(corner, 0, 2));
        return paths(net, corner, deltas()).stream().mapToInt(Path::late).max().orElse(-1);
    }

    int early(int net, int corner) {
        bounds(noNet(net));
        illegal(out(corner, 0, 2));
        return paths(net, corner, deltas()).stream().mapToInt(Path::early).min().orElse(-1);
    }

    private int back(int start, int end) {
        return start < 0 ? 0 : commonWay(start, end) * derate / 100;
    }

    private int setup(int c, int corner, int[] deltas) {
        int due = clock(c) + cells.get(c).cycles * period - 2;
        return paths(cells.get(c).in[0], corner, deltas).stream().mapToInt(p -> due - p.late() + back(p.start(), c))
                .min().orElse(9999);
    }

    int slack(int c, int corner, boolean hold) {
        bounds(noCell(c));
        illegal(out(corner, 0, 2));
        unsupported(type(c) != 'f');
        if (!hold) {
            return setup(c, corner, deltas());
        }
        return paths(cells.get(c).in[0], corner, deltas()).stream()
                .mapToInt(p -> p.early() - later(clock(c)) - 1 + back(p.start(), c)).min().orElse(9999);
    }

    private int outSlack(int o, int corner, int[] deltas) {
        return paths(outputs.get(o)[0], corner, deltas).stream().mapToInt(p -> period - p.late()).min().orElse(9999);
    }

    int slackOut(int o, int corner) {
        bounds(out(o, 0, outputs.size() - 1));
        illegal(out(corner, 0, 2));
        return outSlack(o, corner, deltas());
    }

    int worst(int corner) {
        illegal(out(corner, 0, 2));
        int[] deltas = deltas();
        int least = 9999;
        for (int c = 0; c < cells.size(); c++) {
            if (type(c) == 'f') {
                least = Math.min(least, setup(c, corner, deltas));
            }
        }
        for (int o = 0; o < outputs.size(); o++) {
            least = Math.min(least, outSlack(o, corner, deltas));
        }
        return least;
    }

    /** The sinks of a net: {cell, input} or {-1, output}; buffers that were put into it stand last. */
    private List<int[]> sinks(int net) {
        List<int[]> all = new ArrayList<>();
        List<int[]> last = new ArrayList<>();
        for (int c = 0; c < cells.size(); c++) {
            for (int i = 0; i < 2; i++) {
                if (cells.get(c).in[i] == net) {
                    (cells.get(c).putIn ? last : all).add(new int[] {c, i});
                }
            }
        }
        for (int o = 0; o < outputs.size(); o++) {
            if (outputs.get(o)[0] == net) {
                all.add(new int[] {-1, o});
            }
        }
        all.addAll(last);
        return all;
    }

    private void move(int[] sink, int net) {
        if (sink[0] < 0) {
            outputs.get(sink[1])[0] = net;
        } else {
            cells.get(sink[0]).in[sink[1]] = net;
        }
    }

    int buffer(int net, int kind, int x, int row) {
        bounds(noNet(net) || out(kind, 0, kinds.size() - 1));
        illegal(out(x, 0, 23) || out(row, 0, 5));
        List<int[]> sinks = sinks(net);
        unsupported(kinds.get(kind).type() != 'b' || sinks.isEmpty() || sinks.size() > 6
                || !fits(kinds.get(kind).width(), x, row, Set.of()));
        state(cells.size() == 18);
        int c = addCell(kind);
        cells.get(c).place = 24 * row + x;
        cells.get(c).in[0] = net;
        cells.get(c).putIn = true;
        int best = -1;
        int bestTime = 0;
        for (int set = 1; set < 1 << sinks.size(); set++) {
            for (int i = 0; i < sinks.size(); i++) {
                move(sinks.get(i), (set & 1 << i) != 0 ? cells.get(c).net : net);
            }
            int time = worst(1);
            if (best < 0 || time > bestTime) {
                best = set;
                bestTime = time;
            }
        }
        for (int i = 0; i < sinks.size(); i++) {
            boolean isMoved = (best & 1 << i) != 0;
            move(sinks.get(i), isMoved ? cells.get(c).net : net);
            if (isMoved && sinks.get(i)[0] >= 0) {
                cells.get(sinks.get(i)[0]).putIn = false;
            }
        }
        return worst(1);
    }

    int save() {
        for (Cell c : cells) {
            int own = c.kind;
            int before = worst(2);
            List<Integer> others = new ArrayList<>();
            for (int k = 0; k < kinds.size(); k++) {
                Kind kind = kinds.get(k);
                if (k != own && kind.type() == kinds.get(own).type() && kind.width() == kinds.get(own).width()
                        && kind.leak() < kinds.get(own).leak()) {
                    others.add(k);
                }
            }
            others.sort(Comparator.comparingInt((Integer k) -> kinds.get(k).leak()).thenComparingInt(k -> k));
            for (int k : others) {
                c.kind = k;
                int time = worst(2);
                if (time >= 0 || time >= before) {
                    break;
                }
                c.kind = own;
            }
        }
        return leakage();
    }

    private boolean flopsPlaced() {
        for (int c = 0; c < cells.size(); c++) {
            if (type(c) == 'f' && cells.get(c).place < 0) {
                return false;
            }
        }
        return true;
    }

    int tree() {
        unsupported(!flopsPlaced());
        leaves = new ArrayList<>();
        List<Node> row = new ArrayList<>();
        for (int c = 0; c < cells.size(); c++) {
            Node n = null;
            if (type(c) == 'f') {
                n = new Node();
                n.x = cells.get(c).place % 24;
                n.row = cells.get(c).place / 24;
                row.add(n);
            }
            leaves.add(n);
        }
        int length = 0;
        while (row.size() > 1) {
            int a = 0;
            int b = 1;
            for (int i = 0; i < row.size(); i++) {
                for (int j = i + 1; j < row.size(); j++) {
                    if (apart(row.get(i), row.get(j)) < apart(row.get(a), row.get(b))) {
                        a = i;
                        b = j;
                    }
                }
            }
            Node one = row.get(a);
            Node two = row.get(b);
            Node middle = new Node();
            middle.x = (one.x + two.x) / 2;
            middle.row = (one.row + two.row) / 2;
            middle.delay = Math.max(one.delay + apart(one, middle), two.delay + apart(two, middle));
            length += 2 * middle.delay - one.delay - two.delay;
            one.parent = middle;
            two.parent = middle;
            row.remove(one);
            row.remove(two);
            row.add(middle);
        }
        root = row.isEmpty() ? null : row.get(0);
        return length;
    }

    private static int apart(Node a, Node b) {
        return Math.abs(a.x - b.x) + Math.abs(a.row - b.row);
    }

    int latency(int c) {
        bounds(noCell(c));
        unsupported(type(c) != 'f');
        return clock(c);
    }

    private int commonWay(int a, int b) {
        if (root == null) {
            return 0;
        }
        List<Node> up = new ArrayList<>();
        for (Node n = leaves.get(a); n != null; n = n.parent) {
            up.add(n);
        }
        Node n = leaves.get(b);
        while (!up.contains(n)) {
            n = n.parent;
        }
        return root.delay - n.delay;
    }

    int common(int a, int b) {
        bounds(noCell(a) || noCell(b));
        unsupported(type(a) != 'f' || type(b) != 'f');
        return commonWay(a, b);
    }

    int setSkew(int c, int skew) {
        bounds(noCell(c));
        illegal(out(skew, -9, 9));
        unsupported(type(c) != 'f');
        int before = cells.get(c).skew;
        cells.get(c).skew = skew;
        return before;
    }

    int setCapacity(int a, int d) {
        illegal(out(a, 1, 9) || out(d, 1, 9));
        int before = 10 * across + down;
        across = a;
        down = d;
        wires = null;
        shapes.clear();
        whole = false;
        return before;
    }

    /** An edge is its place, and 1000 more if it goes to the next row. */
    private int used(int edge) {
        int n = 0;
        for (Set<Integer> net : wires) {
            n += net.contains(edge) ? 1 : 0;
        }
        return n;
    }

    private int room(int edge) {
        return edge < 1000 ? across : down;
    }

    private Set<Integer> edges() {
        Set<Integer> all = new TreeSet<>();
        for (Set<Integer> net : wires) {
            all.addAll(net);
        }
        return all;
    }

    private int excess() {
        int sum = 0;
        for (int e : edges()) {
            sum += Math.max(0, used(e) - room(e));
        }
        return sum;
    }

    private static int steps(int p, int q) {
        return Math.abs(p / 24 - q / 24) + Math.abs(p % 24 - q % 24);
    }

    private static List<Integer> way(int from, int over, int to) {
        List<Integer> places = new ArrayList<>(List.of(from));
        for (int goal : new int[] {over, to}) {
            int p = places.get(places.size() - 1);
            while (p != goal) {
                p += p / 24 == goal / 24 ? Integer.signum(goal - p) : 24 * Integer.signum(goal - p);
                places.add(p);
            }
        }
        return places;
    }

    private static int edge(int p, int q) {
        return Math.min(p, q) + (p / 24 == q / 24 ? 0 : 1000);
    }

    private void routeNet(int net) {
        Set<Integer> mine = wires.get(net);
        TreeSet<Integer> tree = new TreeSet<>(Set.of(driverPlace(net)));
        TreeSet<Integer> left = pinPlaces(net);
        left.removeAll(tree);
        while (!left.isEmpty()) {
            int pin = -1;
            int from = -1;
            for (int p : left) {
                for (int t : tree) {
                    if (pin < 0 || steps(p, t) < steps(pin, from)) {
                        pin = p;
                        from = t;
                    }
                }
            }
            List<Integer> one = way(from, 24 * (from / 24) + pin % 24, pin);
            List<Integer> two = way(from, 24 * (pin / 24) + from % 24, pin);
            List<Integer> way = cost(two, mine) < cost(one, mine) ? two : one;
            for (int i = 1; i < way.size(); i++) {
                mine.add(edge(way.get(i - 1), way.get(i)));
            }
            tree.addAll(way);
            left.removeAll(tree);
        }
    }

    private int cost(List<Integer> way, Set<Integer> mine) {
        int sum = 0;
        for (int i = 1; i < way.size(); i++) {
            int e = edge(way.get(i - 1), way.get(i));
            if (!mine.contains(e)) {
                sum += 1 + history.getOrDefault(e, 0) + (used(e) >= room(e) ? 8 : 0);
            }
        }
        return sum;
    }

    int route() {
        for (Cell c : cells) {
            unsupported(c.place < 0);
        }
        shapes.clear();
        whole = false;
        history = new HashMap<>();
        wires = new ArrayList<>();
        for (int n = 0; n < nets.size(); n++) {
            wires.add(new TreeSet<>());
        }
        for (int n = 0; n < nets.size(); n++) {
            routeNet(n);
        }
        return excess();
    }

    int reroute(int rounds) {
        illegal(out(rounds, 1, 9));
        unsupported(wires == null);
        shapes.clear();
        whole = false;
        for (int i = 0; i < rounds && excess() > 0; i++) {
            for (int e : edges()) {
                if (used(e) > room(e)) {
                    history.merge(e, 1, Integer::sum);
                }
            }
            for (int n = 0; n < nets.size(); n++) {
                boolean isOver = false;
                for (int e : wires.get(n)) {
                    isOver |= used(e) > room(e);
                }
                if (isOver) {
                    wires.get(n).clear();
                    routeNet(n);
                }
            }
        }
        return excess();
    }

    int routed(int net) {
        bounds(noNet(net));
        unsupported(wires == null);
        return wires.get(net).size();
    }

    int usage(int x, int row, boolean isAcross) {
        illegal(out(x, 0, isAcross ? 22 : 23) || out(row, 0, isAcross ? 5 : 4));
        return wires == null ? 0 : used(24 * row + x + (isAcross ? 0 : 1000));
    }

    int detail(int newGap) {
        illegal(out(newGap, 1, 4));
        unsupported(wires == null);
        gap = newGap;
        shapes.clear();
        int left = 0;
        for (int layer = 0; layer < 2; layer++) {
            for (int line = 0; line < (layer == 0 ? 6 : 24); line++) {
                List<int[]> runs = new ArrayList<>();
                for (int n = 0; n < nets.size(); n++) {
                    runs.addAll(runs(n, layer, line));
                }
                runs.sort(Comparator.comparingInt((int[] r) -> r[0]).thenComparingInt(r -> r[1])
                        .thenComparingInt(r -> r[2]));
                int[] ends = new int[layer == 0 ? across : down];
                java.util.Arrays.fill(ends, -99);
                for (int[] r : runs) {
                    int track = 0;
                    while (track < ends.length && r[0] - ends[track] < gap) {
                        track++;
                    }
                    if (track == ends.length) {
                        left++;
                    } else {
                        ends[track] = r[1];
                        shapes.add(new Shape(layer, line, track, r[0], r[1], r[2]));
                    }
                }
            }
        }
        whole = left == 0;
        return left;
    }

    private List<int[]> runs(int net, int layer, int line) {
        List<int[]> runs = new ArrayList<>();
        int begin = -1;
        for (int i = 0; i < 24; i++) {
            boolean is = wires.get(net).contains(layer == 0 ? 24 * line + i : 1000 + 24 * i + line);
            if (is && begin < 0) {
                begin = i;
            }
            if (!is && begin >= 0) {
                runs.add(new int[] {begin, i, net});
                begin = -1;
            }
        }
        return runs;
    }

    int shapes() {
        return shapes.size();
    }

    int shapeAt(int i, char what) {
        bounds(out(i, 0, shapes.size() - 1));
        Shape s = shapes.get(i);
        return switch (what) {
            case 'l' -> s.layer();
            case 'i' -> s.line();
            case 't' -> s.track();
            case 'a' -> s.from();
            case 'z' -> s.to();
            case 'n' -> s.net();
            case 'm' -> s.track() & 1;
            default -> throw new IllegalArgumentException();
        };
    }

    int addShape(int layer, int line, int track, int from, int to, int net) {
        bounds(noNet(net));
        illegal(out(layer, 0, 1) || out(line, 0, layer == 0 ? 5 : 23) || out(track, 0, (layer == 0 ? across : down) - 1)
                || out(from, 0, layer == 0 ? 23 : 5) || out(to, 0, layer == 0 ? 23 : 5) || to <= from);
        state(shapes.size() == 200);
        whole = false;
        shapes.add(new Shape(layer, line, track, from, to, net));
        return shapes.size() - 1;
    }

    int removeShape(int i) {
        bounds(out(i, 0, shapes.size() - 1));
        whole = false;
        return shapes.remove(i).net();
    }

    int setRules(int least, int low, int high, int antenna) {
        illegal(out(least, 1, 9) || out(low, 0, 100) || out(high, low, 100) || out(antenna, 1, 99));
        int before = rules[0];
        rules = new int[] {least, low, high, antenna};
        return before;
    }

    int breaches(char rule) {
        return switch (rule) {
            case 's' -> breachesAnew();
            case 'a' -> (int) shapes.stream().filter(s -> s.to() - s.from() < rules[0]).count();
            case 'd' -> windows();
            case 't' -> antennas();
            case 'l' -> crossings();
            default -> throw new IllegalArgumentException();
        };
    }

    private int windows() {
        int[] steps = new int[3];
        for (Shape s : shapes) {
            for (int x = s.from(); s.layer() == 0 && x < s.to(); x++) {
                steps[x / 8]++;
            }
        }
        int odd = 0;
        for (int n : steps) {
            int fill = n * 100 / (48 * across);
            odd += out(fill, rules[1], rules[2]) ? 1 : 0;
        }
        return odd;
    }

    private int antennas() {
        int found = 0;
        for (int n = 0; n < nets.size(); n++) {
            int inputCount = 0;
            boolean diode = false;
            for (int[] s : sinks(n)) {
                inputCount += s[0] >= 0 ? 1 : 0;
                diode |= s[0] >= 0 && type(s[0]) == 'd';
            }
            int sum = 0;
            for (Shape s : shapes) {
                sum += s.layer() == 0 && s.net() == n ? s.to() - s.from() : 0;
            }
            found += inputCount > 0 && !diode && sum / inputCount > rules[3] ? 1 : 0;
        }
        return found;
    }

    private int crossings() {
        int found = 0;
        for (int c = 0; c < cells.size(); c++) {
            for (int[] s : cells.get(c).net < 0 ? new ArrayList<int[]>() : sinks(cells.get(c).net)) {
                found += s[0] >= 0 && cells.get(s[0]).domain != cells.get(c).domain && type(s[0]) != 'l' ? 1 : 0;
            }
        }
        return found;
    }

    int breachesAnew() {
        int n = 0;
        for (Shape a : shapes) {
            for (Shape b : shapes) {
                boolean isFirst = a.from() < b.from() || a.from() == b.from() && shapes.indexOf(a) < shapes.indexOf(b);
                n += a.net() != b.net() && a.sameTrack(b) && isFirst && b.from() - a.to() < gap ? 1 : 0;
            }
        }
        return n;
    }

    int coupling(int net, int other) {
        bounds(noNet(net) || noNet(other));
        int sum = 0;
        for (Shape a : shapes) {
            for (Shape b : shapes) {
                if (net != other && a.net() == net && b.net() == other && a.layer() == b.layer()
                        && a.line() == b.line() && Math.abs(a.track() - b.track()) == 1) {
                    for (int s = a.from(); s < a.to(); s++) {
                        sum += s >= b.from() && s < b.to() ? 1 : 0;
                    }
                }
            }
        }
        return sum;
    }

    int delta(int net) {
        bounds(noNet(net));
        return deltas()[net];
    }

    int drop(int c) {
        bounds(noCell(c));
        int p = cells.get(c).place;
        unsupported(p < 0);
        int sum = 0;
        for (Cell o : cells) {
            if (o.place >= 0 && o.place / 24 == p / 24) {
                sum += kinds.get(o.kind).drive() * (Math.min(o.place, p) % 24 + 1) * (24 - Math.max(o.place, p) % 24);
            }
        }
        return sum / 25;
    }

    int setDomain(int c, int domain) {
        bounds(noCell(c));
        illegal(out(domain, 0, 1));
        int before = cells.get(c).domain;
        cells.get(c).domain = domain;
        return before;
    }

    int scan() {
        unsupported(!flopsPlaced());
        chain.clear();
        TreeSet<Integer> left = new TreeSet<>();
        for (int c = 0; c < cells.size(); c++) {
            if (type(c) == 'f') {
                left.add(c);
            }
        }
        int length = 0;
        int at = 0;
        while (!left.isEmpty()) {
            int here = at;
            int next = left.stream().min(Comparator.comparingInt((Integer c) -> steps(here, cells.get(c).place))
                    .thenComparingInt(c -> c)).get();
            length += chain.isEmpty() ? 0 : steps(at, cells.get(next).place);
            at = cells.get(next).place;
            chain.add(next);
            left.remove(next);
        }
        return length;
    }

    int scanAt(int i) {
        if (out(i, 0, chain.size() - 1)) {
            throw new NoSuchElementException();
        }
        return chain.get(i);
    }

    int lockups() {
        int n = 0;
        for (int i = 1; i < chain.size(); i++) {
            n += clock(chain.get(i)) > clock(chain.get(i - 1)) ? 1 : 0;
        }
        return n;
    }

    int change(int c, int spare) {
        bounds(noCell(c) || noCell(spare));
        unsupported(c == spare || type(c) != type(spare) || !isSpare(spare));
        gone();
        Cell from = cells.get(c);
        Cell to = cells.get(spare);
        for (int i = 0; i < 2; i++) {
            to.in[i] = from.in[i];
            from.in[i] = -1;
        }
        from.putIn = false;
        to.putIn = false;
        int n = 0;
        for (int[] s : from.net < 0 ? new ArrayList<int[]>() : sinks(from.net)) {
            move(s, to.net);
            if (s[0] >= 0) {
                cells.get(s[0]).putIn = false;
            }
            n += s[0] != spare ? 1 : 0;
        }
        return n;
    }

    boolean isSpare(int c) {
        bounds(noCell(c));
        Cell cell = cells.get(c);
        return cell.place >= 0 && cell.in[0] < 0 && cell.in[1] < 0 && (cell.net < 0 || sinks(cell.net).isEmpty());
    }

    int opens() {
        int n = 0;
        for (int net = 0; net < nets.size(); net++) {
            List<Set<Integer>> islands = new ArrayList<>();
            List<List<Shape>> groups = new ArrayList<>();
            for (Shape s : shapes) {
                if (s.net() != net) {
                    continue;
                }
                Set<Integer> island = new HashSet<>(s.places());
                List<Shape> group = new ArrayList<>(List.of(s));
                for (int i = groups.size() - 1; i >= 0; i--) {
                    boolean isJoined = false;
                    for (Shape o : groups.get(i)) {
                        Set<Integer> both = new HashSet<>(o.places());
                        both.retainAll(s.places());
                        Set<Integer> pins = new HashSet<>(both);
                        pins.retainAll(pinPlaces(net));
                        isJoined |= !both.isEmpty() && (o.layer() != s.layer() || o.sameTrack(s)) || !pins.isEmpty();
                    }
                    if (isJoined) {
                        group.addAll(groups.remove(i));
                        island.addAll(islands.remove(i));
                    }
                }
                groups.add(group);
                islands.add(island);
            }
            boolean isJoined = pinPlaces(net).size() < 2;
            for (Set<Integer> island : islands) {
                isJoined |= island.containsAll(pinPlaces(net));
            }
            n += isJoined ? 0 : 1;
        }
        return n;
    }

    int shorts() {
        Set<Integer> pairs = new HashSet<>();
        for (Shape a : shapes) {
            for (Shape b : shapes) {
                Set<Integer> both = new HashSet<>(a.places());
                both.retainAll(b.places());
                if (a.net() < b.net() && a.sameTrack(b) && !both.isEmpty()) {
                    pairs.add(100 * a.net() + b.net());
                }
            }
        }
        return pairs.size();
    }

    boolean isAsDrawn() {
        return opens() == 0 && shorts() == 0;
    }

    int leakage() {
        return cells.stream().mapToInt(c -> kinds.get(c.kind).leak()).sum();
    }

    int cellCount() {
        return cells.size();
    }

    int netCount() {
        return nets.size();
    }

    long checksum() {
        long sum = 5;
        for (Cell c : cells) {
            sum = sum * 31 + c.place;
        }
        for (Shape s : shapes) {
            sum = sum * 31 + s.line() + 7L * s.track() + s.net();
        }
        return sum;
    }

    float fill() {
        if (blocked.size() == 144) {
            throw new ArithmeticException();
        }
        Set<Integer> taken = new HashSet<>();
        for (int c = 0; c < cells.size(); c++) {
            taken.addAll(sites(c));
        }
        taken.removeAll(blocked);
        return (float) taken.size() / (float) (144 - blocked.size());
    }

    double meanLength() {
        if (nets.isEmpty()) {
            throw new ArithmeticException();
        }
        return (double) allLength() / (double) nets.size();
    }

    boolean isSound() {
        return !whole || isAsDrawn();
    }
}
