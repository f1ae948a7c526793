import java.util.NoSuchElementException;

/** A chip, from a net of gates to the shapes that are drawn of it; the document says what each call promises. */
public final class CellrowWorks {
    private static final int ROWS = 6;
    private static final int SITES = 24;
    private static final int PLACES = 144;
    private static final int MOST_KINDS = 12;
    private static final int MOST_CELLS = 18;
    private static final int MOST_PORTS = 6;
    private static final int MOST_NETS = 24;
    private static final int MOST_PINS = 2;
    private static final int CELL_PINS = 36;
    private static final int MOST_SINKS = 42;
    private static final int MOST_BUFFERED = 6;
    private static final int MOST_SHAPES = 200;
    private static final int MOST_TRACKS = 9;
    private static final int MOST_EXCHANGES = 40;
    private static final int NONE = -1;
    private static final int UNBOUND = 9999;

    private final Library library = new Library();
    private final Netlist list = new Netlist(library);
    private final Floor floor = new Floor(list);
    private final Legalizer legalizer = new Legalizer(list, floor);
    private final Clock clock = new Clock(list, floor);
    private final Chain chain = new Chain(list, floor, clock);
    private final Router router = new Router(list, floor);
    private final Drawing drawing = new Drawing(list, router);
    private final Comparison comparison = new Comparison(list, floor, drawing);
    private final Timer timer = new Timer(list, floor, clock, router, drawing);
    private final Tuner tuner = new Tuner(list, floor, timer);

    /** Creates a chip without kinds, cells and nets. */
    public CellrowWorks() {
    }

    // ---- library and net

    /** Adds a kind of cells and returns its number. */
    public int addKind(char type, int width, int drive, int load, int leak, int delay)
            throws IllegalArgumentException, IllegalStateException {
        if (!Library.isType(type) || isOutside(width, 1, 4) || isOutside(drive, 1, 9) || isOutside(load, 1, 9)
                || isOutside(leak, 0, 99) || isOutside(delay, 0, 99)) {
            throw new IllegalArgumentException("no such type, or a number is out of range");
        }
        if (library.isFull()) {
            throw new IllegalStateException("there are 12 kinds");
        }
        return library.append(type, width, drive, load, leak, delay);
    }

    /** Adds a cell, without a place, and returns its number. */
    public int addCell(int kind) throws IndexOutOfBoundsException, IllegalStateException {
        needKind(kind);
        needRoomForCell();
        forgetDrawn();
        return list.appendCell(kind);
    }

    /** Adds an input of the chip, at the site 0 of a row, and returns the number of its net. */
    public int addInput(int row) throws IllegalArgumentException, IllegalStateException {
        needRow(row);
        if (list.inputCount >= MOST_PORTS) {
            throw new IllegalStateException("there are 6 inputs");
        }
        forgetDrawn();
        return list.appendInput(row);
    }

    /** Adds an output of the chip, at the site 23 of a row, and returns its number. */
    public int addOutput(int net, int row)
            throws IndexOutOfBoundsException, IllegalArgumentException, IllegalStateException {
        needNet(net);
        needRow(row);
        if (list.outputCount >= MOST_PORTS) {
            throw new IllegalStateException("there are 6 outputs");
        }
        forgetDrawn();
        return list.appendOutput(net, row);
    }

    /** Returns the net that a cell drives. */
    public int netOf(int cell) throws IndexOutOfBoundsException, NoSuchElementException {
        needCell(cell);
        int net = list.drivenBy(cell);
        if (net == NONE) {
            throw new NoSuchElementException("the cell drives no net");
        }
        return net;
    }

    /** Connects an input of a cell with a net and returns the net before. */
    public int connect(int cell, int input, int net) throws IndexOutOfBoundsException, UnsupportedOperationException {
        needCell(cell);
        if (isOutside(input, 0, list.pinsOf(cell) - 1)) {
            throw new IndexOutOfBoundsException("no such input");
        }
        needNet(net);
        if (list.closesRing(cell, net)) {
            throw new UnsupportedOperationException("a ring without a flip-flop");
        }
        forgetDrawn();
        return list.attach(cell, input, net);
    }

    /** Makes a cell one of another kind and returns the kind before. */
    public int setKind(int cell, int kind) throws IndexOutOfBoundsException, UnsupportedOperationException {
        needCell(cell);
        needKind(kind);
        int before = list.kindOf(cell);
        if (!library.isAlike(before, kind)) {
            throw new UnsupportedOperationException("another type or width");
        }
        list.exchangeKind(cell, kind);
        return before;
    }

    /** Returns what a net is. */
    public int value(int net, int inputs, int states) throws IndexOutOfBoundsException {
        needNet(net);
        return list.bitOf(net, inputs, states);
    }

    // ---- places

    /** Blocks sites of a row and returns how many of it are blocked. */
    public int block(int x, int row, int width, int halo) throws IllegalArgumentException {
        needPlace(x, row);
        if (isOutside(width, 1, SITES) || isOutside(halo, 0, 3) || x + width > SITES) {
            throw new IllegalArgumentException("a number is out of range");
        }
        return floor.close(x - halo, x + width + halo, row);
    }

    /** Places a cell and returns the place before. */
    public int place(int cell, int x, int row, boolean isTurned)
            throws IndexOutOfBoundsException, IllegalArgumentException, UnsupportedOperationException {
        needCell(cell);
        needPlace(x, row);
        if (!floor.isRoomFor(cell, list.widthOf(cell), x, row)) {
            throw new UnsupportedOperationException("the cell cannot stand there");
        }
        forgetDrawn();
        return floor.put(cell, SITES * row + x, isTurned);
    }

    /** Returns the place of a cell. */
    public int placeOf(int cell) throws IndexOutOfBoundsException, NoSuchElementException {
        needCell(cell);
        int place = floor.at(cell);
        if (place == NONE) {
            throw new NoSuchElementException("the cell has no place");
        }
        return place;
    }

    /** Tells where a cell should be and returns the wish before. */
    public int wish(int cell, int x, int row) throws IndexOutOfBoundsException, IllegalArgumentException {
        needCell(cell);
        needPlace(x, row);
        return floor.want(cell, SITES * row + x);
    }

    /** Places all cells that should be in a row by least moves and returns their sum. */
    public int legalize(int row) throws IllegalArgumentException, UnsupportedOperationException {
        needRow(row);
        int moves = legalizer.plan(row);
        if (moves == NONE) {
            throw new UnsupportedOperationException("the cells do not fit");
        }
        if (legalizer.size() > 0) {
            forgetDrawn();
            legalizer.carryOut(row);
        }
        return moves;
    }

    /** Exchanges cells of one width as long as wires become shorter and returns how often. */
    public int improve() {
        int exchanges = floor.exchangeAll();
        if (exchanges > 0) {
            forgetDrawn();
        }
        return exchanges;
    }

    /** Returns the length of a net. */
    public int length(int net) throws IndexOutOfBoundsException {
        needNet(net);
        floor.measure();
        return floor.spanOf(net);
    }

    /** Returns the length of all nets. */
    public int allLength() {
        return floor.spanOfAll();
    }

    // ---- times

    /** Sets the period of the clock and returns the one before. */
    public int setPeriod(int period) throws IllegalArgumentException {
        needRange(period, 1, 999);
        int before = timer.period;
        timer.period = period;
        return before;
    }

    /** Sets whether paths through a cell do not count and returns whether they did not. */
    public boolean setFalse(int cell, boolean is) throws IndexOutOfBoundsException {
        needCell(cell);
        return timer.markFalse(cell, is);
    }

    /** Sets how many cycles there are to a flip-flop and returns how many there were. */
    public int setCycles(int cell, int cycles)
            throws IndexOutOfBoundsException, IllegalArgumentException, UnsupportedOperationException {
        needCell(cell);
        needRange(cycles, 1, 4);
        needFlop(cell);
        return timer.exchangeCycles(cell, cycles);
    }

    /** Sets by how much what is late is later and returns the derate before. */
    public int setDerate(int derate) throws IllegalArgumentException {
        needRange(derate, 0, 50);
        int before = timer.derate;
        timer.derate = derate;
        return before;
    }

    /** Returns when a net is settled at the latest. */
    public int late(int net, int corner) throws IndexOutOfBoundsException, IllegalArgumentException {
        needNet(net);
        needCorner(corner);
        return timer.latestAt(net, corner);
    }

    /** Returns when a net can change at the earliest. */
    public int early(int net, int corner) throws IndexOutOfBoundsException, IllegalArgumentException {
        needNet(net);
        needCorner(corner);
        return timer.earliestAt(net, corner);
    }

    /** Returns how much time there is to spare at a flip-flop. */
    public int slack(int cell, int corner, boolean isHold)
            throws IndexOutOfBoundsException, IllegalArgumentException, UnsupportedOperationException {
        needCell(cell);
        needCorner(corner);
        needFlop(cell);
        return isHold ? timer.spareEarly(cell, corner) : timer.spareLate(cell, corner);
    }

    /** Returns how much time there is to spare at an output. */
    public int slackOut(int output, int corner) throws IndexOutOfBoundsException, IllegalArgumentException {
        if (isOutside(output, 0, list.outputCount - 1)) {
            throw new IndexOutOfBoundsException("no such output");
        }
        needCorner(corner);
        return timer.spareOut(output, corner);
    }

    /** Returns the least time to spare at all flip-flops, for late changes, and outputs. */
    public int worst(int corner) throws IllegalArgumentException {
        needCorner(corner);
        return timer.leastByNets(corner);
    }

    /** Returns the same, by listing all paths one by one. */
    public int worstAnew(int corner) throws IllegalArgumentException {
        needCorner(corner);
        return timer.leastByPaths(corner);
    }

    /** Puts a buffer into a net, with the best sinks behind it, and returns the worst time then. */
    public int buffer(int net, int kind, int x, int row) throws IndexOutOfBoundsException, IllegalArgumentException,
            UnsupportedOperationException, IllegalStateException {
        needNet(net);
        needKind(kind);
        needPlace(x, row);
        int sinks = list.gatherSinks(net);
        if (library.typeOf(kind) != 'b' || isOutside(sinks, 1, MOST_BUFFERED)
                || !floor.isRoomFor(NONE, library.widthOf(kind), x, row)) {
            throw new UnsupportedOperationException("no buffer, too few or too many sinks, or no room there");
        }
        needRoomForCell();
        forgetDrawn();
        return tuner.putIn(net, kind, SITES * row + x);
    }

    /** Makes cells those kinds that leak the least without harm and returns the leakage of all cells. */
    public int save() {
        for (int cell = 0; cell < list.cellCount; cell++) {
            tuner.lessen(cell);
        }
        return list.leakOfAll();
    }

    // ---- clock, wires

    /** Makes the tree of the clock and returns the length of its wires. */
    public int tree() throws UnsupportedOperationException {
        needFlopsPlaced();
        return clock.grow();
    }

    /** Returns when the clock comes to a flip-flop. */
    public int latency(int cell) throws IndexOutOfBoundsException, UnsupportedOperationException {
        needCell(cell);
        needFlop(cell);
        return clock.arrivalAt(cell);
    }

    /** Returns how long the common way of the clock to two flip-flops is. */
    public int common(int cell, int other) throws IndexOutOfBoundsException, UnsupportedOperationException {
        needCell(cell);
        needCell(other);
        needFlop(cell);
        needFlop(other);
        return clock.sharedWay(cell, other);
    }

    /** Sets by how much the clock comes later to a flip-flop and returns the skew before. */
    public int setSkew(int cell, int skew)
            throws IndexOutOfBoundsException, IllegalArgumentException, UnsupportedOperationException {
        needCell(cell);
        needRange(skew, -9, 9);
        needFlop(cell);
        return clock.exchangeSkew(cell, skew);
    }

    /** Sets the capacities and returns 10 times the first one plus the second one before. */
    public int setCapacity(int across, int down) throws IllegalArgumentException {
        needRange(across, 1, MOST_TRACKS);
        needRange(down, 1, MOST_TRACKS);
        int before = 10 * router.across + router.down;
        drawing.wipe();
        router.widen(across, down);
        return before;
    }

    /** Routes all nets anew and returns by how many wires edges are over full. */
    public int route() throws UnsupportedOperationException {
        if (!floor.isAllPlaced()) {
            throw new UnsupportedOperationException("a cell has no place");
        }
        drawing.wipe();
        router.runAll();
        return router.excess();
    }

    /** Routes nets over edges that are over full again and returns by how many wires edges are over full. */
    public int reroute(int rounds) throws IllegalArgumentException, UnsupportedOperationException {
        needRange(rounds, 1, 9);
        needRouted();
        drawing.wipe();
        router.relieve(rounds);
        return router.excess();
    }

    /** Returns the length of the wires of a net. */
    public int routed(int net) throws IndexOutOfBoundsException, UnsupportedOperationException {
        needNet(net);
        needRouted();
        return router.wireLengthOf(net);
    }

    /** Returns how many wires there are on an edge. */
    public int usage(int x, int row, boolean isAcross) throws IllegalArgumentException {
        needPlace(x, row);
        if (isAcross ? x == SITES - 1 : row == ROWS - 1) {
            throw new IllegalArgumentException("no such edge");
        }
        return router.wiresOn(isAcross ? 0 : 1, SITES * row + x);
    }

    // ---- shapes and rules

    /** Lays the wires on tracks and returns how many could not be laid. */
    public int detail(int gap) throws IllegalArgumentException, UnsupportedOperationException {
        needRange(gap, 1, 4);
        needRouted();
        return drawing.lay(gap);
    }

    /** Returns the number of shapes. */
    public int shapes() {
        return drawing.count;
    }

    /** Returns something about a shape. */
    public int shapeAt(int index, char what) throws IndexOutOfBoundsException, IllegalArgumentException {
        needShape(index);
        int answer = drawing.tell(index, what);
        if (answer == NONE) {
            throw new IllegalArgumentException("no such letter");
        }
        return answer;
    }

    /** Adds a shape by hand and returns its index. */
    public int addShape(int layer, int line, int track, int from, int to, int net)
            throws IndexOutOfBoundsException, IllegalArgumentException, IllegalStateException {
        needNet(net);
        needRange(layer, 0, 1);
        needRange(line, 0, Router.linesOf(layer) - 1);
        needRange(track, 0, router.capacityOf(layer) - 1);
        needRange(from, 0, Router.lastOf(layer) - 1);
        needRange(to, from + 1, Router.lastOf(layer));
        if (drawing.count >= MOST_SHAPES) {
            throw new IllegalStateException("there are 200 shapes");
        }
        drawing.isWhole = false;
        drawing.append(layer, line, track, from, to, net);
        return drawing.count - 1;
    }

    /** Takes a shape away and returns the net that it had. */
    public int removeShape(int index) throws IndexOutOfBoundsException {
        needShape(index);
        return drawing.takeAway(index);
    }

    /** Sets rules and returns the least length before. */
    public int setRules(int least, int low, int high, int antenna) throws IllegalArgumentException {
        needRange(least, 1, 9);
        needRange(low, 0, 100);
        needRange(high, low, 100);
        needRange(antenna, 1, 99);
        return drawing.exchangeRules(least, low, high, antenna);
    }

    /** Returns how often a rule is broken. */
    public int breaches(char rule) throws IllegalArgumentException {
        switch (rule) {
            case 's':
                return drawing.narrowBySweep();
            case 'a':
                return drawing.tooShort();
            case 'd':
                return drawing.oddWindows();
            case 't':
                return drawing.antennas();
            case 'l':
                return floor.crossings();
            default:
                throw new IllegalArgumentException("no such rule");
        }
    }

    /** Returns how often gaps are too small, by each pair of shapes. */
    public int breachesAnew() {
        return drawing.narrowByPairs();
    }

    // ---- couplings, power and tests

    /** Returns how long two nets go beside each other on tracks. */
    public int coupling(int net, int other) throws IndexOutOfBoundsException {
        needNet(net);
        needNet(other);
        return drawing.besideOf(net, other);
    }

    /** Returns by how much a net is later by others beside it. */
    public int delta(int net) throws IndexOutOfBoundsException {
        needNet(net);
        return timer.deltaOf(net);
    }

    /** Returns by how much the voltage is less at a cell. */
    public int drop(int cell) throws IndexOutOfBoundsException, UnsupportedOperationException {
        needCell(cell);
        if (floor.at(cell) == NONE) {
            throw new UnsupportedOperationException("the cell has no place");
        }
        return floor.lossAt(cell);
    }

    /** Sets the domain of a cell and returns the one before. */
    public int setDomain(int cell, int domain) throws IndexOutOfBoundsException, IllegalArgumentException {
        needCell(cell);
        needRange(domain, 0, 1);
        return floor.exchangeDomain(cell, domain);
    }

    /** Makes the chain of all flip-flops for tests and returns its length. */
    public int scan() throws UnsupportedOperationException {
        needFlopsPlaced();
        return chain.link();
    }

    /** Returns a flip-flop of the chain. */
    public int scanAt(int index) throws NoSuchElementException {
        int cell = chain.cellAt(index);
        if (cell == NONE) {
            throw new NoSuchElementException("no such flip-flop in the chain");
        }
        return cell;
    }

    /** Returns how many latches the chain needs. */
    public int lockups() {
        return chain.latches();
    }

    /** Lets a spare cell do what a cell does and returns how many inputs of other cells, and outputs, go to it. */
    public int change(int cell, int spare) throws IndexOutOfBoundsException, UnsupportedOperationException {
        needCell(cell);
        needCell(spare);
        if (cell == spare || list.typeOf(cell) != list.typeOf(spare) || !isUnused(spare)) {
            throw new UnsupportedOperationException("the same cell, an unlike type, or not spare");
        }
        forgetDrawn();
        return list.handOver(cell, spare);
    }

    /** Returns whether a cell is spare. */
    public boolean isSpare(int cell) throws IndexOutOfBoundsException {
        needCell(cell);
        return isUnused(cell);
    }

    /** Returns how many nets are open. */
    public int opens() {
        return comparison.openNets();
    }

    /** Returns how many pairs of nets have a short. */
    public int shorts() {
        return comparison.shortPairs();
    }

    // ---- figures

    /** Returns whether what is drawn connects as the net says. */
    public boolean isAsDrawn() {
        return comparison.isAlike();
    }

    /** Returns the leakage of all cells. */
    public int leakage() {
        return list.leakOfAll();
    }

    /** Returns the number of cells. */
    public int cellCount() {
        return list.cellCount;
    }

    /** Returns the number of nets. */
    public int netCount() {
        return list.netCount;
    }

    /** Returns a sum over the chip. */
    public long checksum() {
        long sum = 5;
        for (int cell = 0; cell < list.cellCount; cell++) {
            sum = 31 * sum + floor.at(cell);
        }
        return drawing.addTo(sum);
    }

    /** Returns the share of the sites that are not blocked that cells take. */
    public float fill() throws ArithmeticException {
        int open = floor.openSites();
        if (open == 0) {
            throw new ArithmeticException("all sites are blocked");
        }
        return (float) floor.takenSites() / (float) open;
    }

    /** Returns the mean length of a net. */
    public double meanLength() throws ArithmeticException {
        if (list.netCount == 0) {
            throw new ArithmeticException("there are no nets");
        }
        return (double) floor.spanOfAll() / (double) list.netCount;
    }

    /** Returns whether all is sound. */
    public boolean isSound() {
        if (floor.isAnySharing() || drawing.narrowBySweep() != drawing.narrowByPairs()) {
            return false;
        }
        for (int corner = 0; corner < 3; corner++) {
            if (timer.leastByNets(corner) != timer.leastByPaths(corner)) {
                return false;
            }
        }
        return !drawing.isWhole || comparison.isAlike();
    }

    // ---- what the calls share

    private static boolean isOutside(int number, int least, int most) {
        return number < least || number > most;
    }

    private void needRange(int number, int least, int most) {
        if (isOutside(number, least, most)) {
            throw new IllegalArgumentException("a number is out of range");
        }
    }

    private void needPlace(int x, int row) {
        needRange(x, 0, SITES - 1);
        needRow(row);
    }

    private void needRow(int row) {
        needRange(row, 0, ROWS - 1);
    }

    private void needCorner(int corner) {
        needRange(corner, 0, 2);
    }

    private void needKind(int kind) {
        if (!library.has(kind)) {
            throw new IndexOutOfBoundsException("no such kind");
        }
    }

    private void needCell(int cell) {
        if (!list.hasCell(cell)) {
            throw new IndexOutOfBoundsException("no such cell");
        }
    }

    private void needNet(int net) {
        if (!list.hasNet(net)) {
            throw new IndexOutOfBoundsException("no such net");
        }
    }

    private void needShape(int index) {
        if (isOutside(index, 0, drawing.count - 1)) {
            throw new IndexOutOfBoundsException("no such shape");
        }
    }

    private void needFlop(int cell) {
        if (!list.isFlop(cell)) {
            throw new UnsupportedOperationException("the cell is no flip-flop");
        }
    }

    private void needFlopsPlaced() {
        if (!floor.areFlopsPlaced()) {
            throw new UnsupportedOperationException("a flip-flop has no place");
        }
    }

    private void needRouted() {
        if (!router.isDone) {
            throw new UnsupportedOperationException("nothing is routed");
        }
    }

    private void needRoomForCell() {
        if (list.cellCount >= MOST_CELLS) {
            throw new IllegalStateException("there are 18 cells");
        }
    }

    private boolean isUnused(int cell) {
        return floor.at(cell) != NONE && list.isLoose(cell);
    }

    /** What is drawn, the tree and the chain hold for the net and the places for which they were made alone. */
    private void forgetDrawn() {
        router.tearOut();
        drawing.wipe();
        clock.fell();
        chain.unlink();
    }

    /** The kinds of cells. */
    private static final class Library {
        private final char[] types = new char[MOST_KINDS];
        private final int[] widths = new int[MOST_KINDS];
        private final int[] drives = new int[MOST_KINDS];
        private final int[] loads = new int[MOST_KINDS];
        private final int[] leaks = new int[MOST_KINDS];
        private final int[] delays = new int[MOST_KINDS];
        private int count;

        static boolean isType(char type) {
            return type == 'b' || type == 'i' || type == 'l' || type == 'f' || type == 'd' || isPaired(type);
        }

        /** Whether cells of a type have two inputs. */
        static boolean isPaired(char type) {
            return type == 'n' || type == 'o' || type == 'x';
        }

        boolean has(int kind) {
            return kind >= 0 && kind < count;
        }

        boolean isFull() {
            return count >= MOST_KINDS;
        }

        int append(char type, int width, int drive, int load, int leak, int delay) {
            if (isFull()) {
                return NONE;
            }
            types[count] = type;
            widths[count] = width;
            drives[count] = drive;
            loads[count] = load;
            leaks[count] = leak;
            delays[count] = delay;
            count++;
            return count - 1;
        }

        char typeOf(int kind) {
            return kind >= 0 && kind < count ? types[kind] : ' ';
        }

        int widthOf(int kind) {
            return kind >= 0 && kind < count ? widths[kind] : 0;
        }

        int driveOf(int kind) {
            return kind >= 0 && kind < count ? drives[kind] : 0;
        }

        int loadOf(int kind) {
            return kind >= 0 && kind < count ? loads[kind] : 0;
        }

        int leakOf(int kind) {
            return kind >= 0 && kind < count ? leaks[kind] : 0;
        }

        boolean isAlike(int kind, int other) {
            return typeOf(kind) == typeOf(other) && widthOf(kind) == widthOf(other);
        }

        /** The delay of a kind with a load in a corner. */
        int delayOf(int kind, int load, int corner) {
            int drive = driveOf(kind);
            if (!has(kind) || drive < 1) {
                return 0;
            }
            int atEight = 16 / drive;
            int atThirtyTwo = 80 / drive;
            int fromTable = load <= 8 ? atEight * load / 8 : atEight + (atThirtyTwo - atEight) * (load - 8) / 24;
            return (delays[kind] + fromTable) * (80 + 20 * corner) / 100;
        }

        /** The first other kind like this one that leaks so much, from a number on; -1 for none. */
        int nextAlike(int kind, int leak, int from) {
            for (int other = from < 0 ? 0 : from; other < count; other++) {
                if (leaks[other] == leak && other != kind && isAlike(kind, other)) {
                    return other;
                }
            }
            return NONE;
        }
    }

    /** Cells, nets and what is connected; of numbers that are not there it answers none. */
    private static final class Netlist {
        private final Library library;
        private final int[] kinds = new int[MOST_CELLS];
        private final int[] driven = new int[MOST_CELLS];
        private final int[][] pins = new int[MOST_CELLS][MOST_PINS];
        private final boolean[] isPutIn = new boolean[MOST_CELLS];
        private final char[] types = new char[MOST_CELLS];
        private final int[] drivers = new int[MOST_NETS];
        private final int[] sources = new int[MOST_NETS];
        private final int[] inputRows = new int[MOST_PORTS];
        private final int[] outputRows = new int[MOST_PORTS];
        private final int[] outputNets = new int[MOST_PORTS];
        private final int[] order = new int[MOST_CELLS];
        private final boolean[] isMarked = new boolean[MOST_CELLS];
        private final int[] bits = new int[MOST_NETS];
        private final int[] sinks = new int[MOST_SINKS];
        private int cellCount;
        private int netCount;
        private int inputCount;
        private int outputCount;
        private int ordered;

        Netlist(Library library) {
            this.library = library;
        }

        boolean hasCell(int cell) {
            return cell >= 0 && cell < cellCount;
        }

        boolean hasNet(int net) {
            return net >= 0 && net < netCount;
        }

        int kindOf(int cell) {
            return cell >= 0 && cell < cellCount ? kinds[cell] : NONE;
        }

        char typeOf(int cell) {
            return cell >= 0 && cell < cellCount ? types[cell] : ' ';
        }

        int widthOf(int cell) {
            return cell >= 0 && cell < cellCount ? library.widthOf(kinds[cell]) : 0;
        }

        boolean isFlop(int cell) {
            return cell >= 0 && cell < cellCount && types[cell] == 'f';
        }

        /** Whether the cell drives at once what comes of its inputs. */
        boolean isGate(int cell) {
            return cell >= 0 && cell < cellCount && types[cell] != 'f' && types[cell] != 'd';
        }

        int pinsOf(int cell) {
            return Library.isPaired(typeOf(cell)) ? MOST_PINS : 1;
        }

        int drivenBy(int cell) {
            return cell >= 0 && cell < cellCount ? driven[cell] : NONE;
        }

        /** The net at an input; -1 if there is none. */
        int netAt(int cell, int input) {
            return cell >= 0 && cell < cellCount && input >= 0 && input < MOST_PINS ? pins[cell][input] : NONE;
        }

        /** The cell that drives a net; -1 if an input of the chip does. */
        int driverOf(int net) {
            return net >= 0 && net < netCount ? drivers[net] : NONE;
        }

        /** The row of the input of the chip that drives a net; -1 if a cell does. */
        int inputRowOf(int net) {
            int source = net >= 0 && net < netCount ? sources[net] : NONE;
            return source >= 0 && source < inputCount ? inputRows[source] : NONE;
        }

        int outputRowOf(int output) {
            return output >= 0 && output < outputCount ? outputRows[output] : NONE;
        }

        int outputNetOf(int output) {
            return output >= 0 && output < outputCount ? outputNets[output] : NONE;
        }

        int appendCell(int kind) {
            if (cellCount >= MOST_CELLS) {
                return NONE;
            }
            int cell = cellCount;
            cellCount++;
            kinds[cell] = kind;
            types[cell] = library.typeOf(kind);
            pins[cell][0] = NONE;
            pins[cell][1] = NONE;
            driven[cell] = types[cell] == 'd' ? NONE : appendNet(cell, NONE);
            return cell;
        }

        int appendInput(int row) {
            if (inputCount >= MOST_PORTS) {
                return NONE;
            }
            inputRows[inputCount] = row;
            inputCount++;
            return appendNet(NONE, inputCount - 1);
        }

        int appendOutput(int net, int row) {
            if (outputCount >= MOST_PORTS) {
                return NONE;
            }
            outputRows[outputCount] = row;
            outputNets[outputCount] = net;
            outputCount++;
            return outputCount - 1;
        }

        private int appendNet(int driver, int source) {
            if (netCount >= MOST_NETS) {
                return NONE;
            }
            drivers[netCount] = driver;
            sources[netCount] = source;
            netCount++;
            return netCount - 1;
        }

        int attach(int cell, int input, int net) {
            int before = netAt(cell, input);
            if (hasCell(cell) && input >= 0 && input < MOST_PINS) {
                pins[cell][input] = net;
                isPutIn[cell] = false;
            }
            return before;
        }

        void exchangeKind(int cell, int kind) {
            if (hasCell(cell)) {
                kinds[cell] = kind;
            }
        }

        int leakOfAll() {
            int sum = 0;
            for (int cell = 0; cell < cellCount; cell++) {
                sum += library.leakOf(kinds[cell]);
            }
            return sum;
        }

        /** Orders the gates so that each one stands behind those that drive its inputs. */
        void arrange() {
            ordered = 0;
            for (int cell = 0; cell < cellCount; cell++) {
                isMarked[cell] = false;
            }
            int before = NONE;
            for (int sweep = 0; sweep < cellCount && ordered > before; sweep++) {
                before = ordered;
                for (int cell = 0; cell < cellCount; cell++) {
                    if (!isMarked[cell] && isGate(cell) && isReady(cell) && ordered < MOST_CELLS) {
                        isMarked[cell] = true;
                        order[ordered] = cell;
                        ordered++;
                    }
                }
            }
        }

        private boolean isReady(int cell) {
            for (int input = 0; input < MOST_PINS; input++) {
                int driver = driverOf(netAt(cell, input));
                if (isGate(driver) && !isMarked[driver]) {
                    return false;
                }
            }
            return true;
        }

        int gateAt(int index) {
            return index >= 0 && index < ordered ? order[index] : NONE;
        }

        /** Whether the net, at an input of the cell, would make a ring without a flip-flop. */
        boolean closesRing(int cell, int net) {
            if (!isGate(cell)) {
                return false;
            }
            arrange();
            for (int other = 0; other < cellCount; other++) {
                isMarked[other] = other == cell;
            }
            for (int index = 0; index < ordered; index++) {
                int gate = gateAt(index);
                if (hasCell(gate) && (isBehindMarked(netAt(gate, 0)) || isBehindMarked(netAt(gate, 1)))) {
                    isMarked[gate] = true;
                }
            }
            return isBehindMarked(net);
        }

        private boolean isBehindMarked(int net) {
            int driver = driverOf(net);
            return hasCell(driver) && isMarked[driver];
        }

        /** What a net is, with bits of inputs of the chip by their numbers, and of states by cells. */
        int bitOf(int net, int inputs, int states) {
            arrange();
            for (int other = 0; other < netCount; other++) {
                int driver = drivers[other];
                bits[other] = driver == NONE ? inputs >> sources[other] & 1 : states >> driver & 1;
            }
            for (int index = 0; index < ordered; index++) {
                int gate = gateAt(index);
                int target = drivenBy(gate);
                if (hasNet(target)) {
                    bits[target] = outcome(typeOf(gate), bitAt(gate, 0), bitAt(gate, 1));
                }
            }
            return hasNet(net) ? bits[net] : 0;
        }

        private int bitAt(int cell, int input) {
            int net = netAt(cell, input);
            return hasNet(net) ? bits[net] : 0;
        }

        private static int outcome(char type, int first, int second) {
            switch (type) {
                case 'i':
                    return 1 - first;
                case 'n':
                    return 1 - (first & second);
                case 'o':
                    return 1 - (first | second);
                case 'x':
                    return first ^ second;
                default:
                    return first;
            }
        }

        /** Gathers the sinks of a net in their order, buffers that were put into it last, and returns how many. */
        int gatherSinks(int net) {
            int found = gatherPins(net, false, 0);
            for (int output = 0; output < outputCount; output++) {
                if (outputNets[output] == net && found < MOST_SINKS) {
                    sinks[found] = CELL_PINS + output;
                    found++;
                }
            }
            return gatherPins(net, true, found);
        }

        private int gatherPins(int net, boolean isOfPutIn, int before) {
            int found = before;
            for (int cell = 0; cell < cellCount; cell++) {
                for (int input = 0; input < MOST_PINS; input++) {
                    if (pins[cell][input] == net && isPutIn[cell] == isOfPutIn && found < MOST_SINKS) {
                        sinks[found] = MOST_PINS * cell + input;
                        found++;
                    }
                }
            }
            return found;
        }

        int sinkAt(int index) {
            return index >= 0 && index < MOST_SINKS ? sinks[index] : NONE;
        }

        void moveSink(int sink, int net) {
            int output = sink - CELL_PINS;
            if (output >= 0 && output < outputCount) {
                outputNets[output] = net;
            } else if (sink >= 0 && hasCell(sink / MOST_PINS)) {
                pins[sink / MOST_PINS][sink % MOST_PINS] = net;
            }
        }

        /** A sink that is moved stands in its new net as any other one. */
        void settleSink(int sink) {
            if (sink >= 0 && hasCell(sink / MOST_PINS)) {
                isPutIn[sink / MOST_PINS] = false;
            }
        }

        void markPutIn(int cell) {
            if (hasCell(cell)) {
                isPutIn[cell] = true;
            }
        }

        /** Whether a cell has nothing at its inputs and drives nothing. */
        boolean isLoose(int cell) {
            int net = drivenBy(cell);
            return netAt(cell, 0) == NONE && netAt(cell, 1) == NONE && (net == NONE || gatherSinks(net) == 0);
        }

        /** Gives all that a cell has at its inputs, and drives, to a spare one; returns how many sinks others have. */
        int handOver(int cell, int spare) {
            int target = drivenBy(spare);
            for (int input = 0; input < MOST_PINS; input++) {
                int net = attach(cell, input, NONE);
                boolean isOwn = net != NONE && net == drivenBy(cell);
                attach(spare, input, isOwn ? target : net);
            }
            int found = drivenBy(cell) == NONE ? 0 : gatherSinks(drivenBy(cell));
            for (int index = 0; index < found; index++) {
                moveSink(sinkAt(index), target);
                settleSink(sinkAt(index));
            }
            return found;
        }
    }

    /** Where cells stand and should be, which sites are blocked, how far pins are apart, and how cells are fed. */
    private static final class Floor {
        private final Netlist list;
        private final int[] places = new int[MOST_CELLS];
        private final boolean[] isTurned = new boolean[MOST_CELLS];
        private final int[] wishes = new int[MOST_CELLS];
        private final int[] inputPlaces = new int[MOST_CELLS];
        private final int[] outputPlaces = new int[MOST_CELLS];
        private final int[] domains = new int[MOST_CELLS];
        private final boolean[] isBlocked = new boolean[PLACES];
        private final int[] left = new int[MOST_NETS];
        private final int[] right = new int[MOST_NETS];
        private final int[] top = new int[MOST_NETS];
        private final int[] bottom = new int[MOST_NETS];

        Floor(Netlist list) {
            this.list = list;
            for (int cell = 0; cell < MOST_CELLS; cell++) {
                places[cell] = NONE;
                inputPlaces[cell] = NONE;
                outputPlaces[cell] = NONE;
                wishes[cell] = NONE;
            }
        }

        int at(int cell) {
            return cell >= 0 && cell < MOST_CELLS ? places[cell] : NONE;
        }

        int wishOf(int cell) {
            return cell >= 0 && cell < MOST_CELLS ? wishes[cell] : NONE;
        }

        int put(int cell, int place, boolean isMirrored) {
            if (!list.hasCell(cell)) {
                return NONE;
            }
            int before = places[cell];
            int last = place + list.widthOf(cell) - 1;
            places[cell] = place;
            isTurned[cell] = isMirrored;
            inputPlaces[cell] = isMirrored ? last : place;
            outputPlaces[cell] = isMirrored ? place : last;
            return before;
        }

        int want(int cell, int place) {
            int before = wishOf(cell);
            if (list.hasCell(cell)) {
                wishes[cell] = place;
            }
            return before;
        }

        int close(int from, int behind, int row) {
            int blocked = 0;
            for (int x = 0; x < SITES; x++) {
                int place = SITES * row + x;
                if (place < 0 || place >= PLACES) {
                    continue;
                }
                if (x >= from && x < behind) {
                    isBlocked[place] = true;
                }
                if (isBlocked[place]) {
                    blocked++;
                }
            }
            return blocked;
        }

        boolean isOpen(int place) {
            return place >= 0 && place < PLACES && !isBlocked[place];
        }

        boolean isOn(int cell, int place) {
            int own = at(cell);
            return own != NONE && place >= own && place < own + list.widthOf(cell);
        }

        /** Whether so many sites are neither blocked nor taken by other cells. */
        boolean isRoomFor(int cell, int width, int x, int row) {
            if (x < 0 || x + width > SITES) {
                return false;
            }
            for (int site = x; site < x + width; site++) {
                if (!isOpen(SITES * row + site) || isTakenByOther(cell, SITES * row + site)) {
                    return false;
                }
            }
            return true;
        }

        private boolean isTakenByOther(int cell, int place) {
            for (int other = 0; other < list.cellCount; other++) {
                if (other != cell && isOn(other, place)) {
                    return true;
                }
            }
            return false;
        }

        boolean isAllPlaced() {
            for (int cell = 0; cell < list.cellCount; cell++) {
                if (places[cell] == NONE) {
                    return false;
                }
            }
            return true;
        }

        boolean areFlopsPlaced() {
            for (int cell = 0; cell < list.cellCount; cell++) {
                if (places[cell] == NONE && list.isFlop(cell)) {
                    return false;
                }
            }
            return true;
        }

        boolean isAnySharing() {
            for (int cell = 0; cell < list.cellCount; cell++) {
                for (int step = 0; step < list.widthOf(cell); step++) {
                    if (places[cell] != NONE && isTakenByOther(cell, places[cell] + step)) {
                        return true;
                    }
                }
            }
            return false;
        }

        int openSites() {
            int open = 0;
            for (int place = 0; place < PLACES; place++) {
                if (!isBlocked[place]) {
                    open++;
                }
            }
            return open;
        }

        int takenSites() {
            int taken = 0;
            for (int place = 0; place < PLACES; place++) {
                if (!isBlocked[place] && isTakenByOther(NONE, place)) {
                    taken++;
                }
            }
            return taken;
        }

        /** The place of the pin that drives a net. */
        int driverPlace(int net) {
            int driver = list.driverOf(net);
            return driver >= 0 && driver < MOST_CELLS ? outputPlaces[driver] : SITES * list.inputRowOf(net);
        }

        static int portPlace(int row) {
            return SITES * row + SITES - 1;
        }

        /** Marks the places of all pins of a net that have one. */
        void markPins(int net, boolean[] isPin) {
            for (int place = 0; place < PLACES && place < isPin.length; place++) {
                isPin[place] = false;
            }
            mark(driverPlace(net), isPin);
            for (int cell = 0; cell < list.cellCount; cell++) {
                if (list.netAt(cell, 0) == net || list.netAt(cell, 1) == net) {
                    mark(inputPlaces[cell], isPin);
                }
            }
            for (int output = 0; output < list.outputCount; output++) {
                if (list.outputNetOf(output) == net) {
                    mark(portPlace(list.outputRowOf(output)), isPin);
                }
            }
        }

        private static void mark(int place, boolean[] isPin) {
            if (place >= 0 && place < isPin.length) {
                isPin[place] = true;
            }
        }

        /** Finds how far the pins of all nets reach. */
        void measure() {
            for (int net = 0; net < list.netCount; net++) {
                left[net] = SITES;
                right[net] = NONE;
                top[net] = ROWS;
                bottom[net] = NONE;
                reach(net, driverPlace(net));
            }
            for (int cell = 0; cell < list.cellCount; cell++) {
                reach(list.netAt(cell, 0), inputPlaces[cell]);
                reach(list.netAt(cell, 1), inputPlaces[cell]);
            }
            for (int output = 0; output < list.outputCount; output++) {
                reach(list.outputNetOf(output), portPlace(list.outputRowOf(output)));
            }
        }

        private void reach(int net, int place) {
            if (place < 0 || !list.hasNet(net)) {
                return;
            }
            left[net] = Math.min(left[net], place % SITES);
            right[net] = Math.max(right[net], place % SITES);
            top[net] = Math.min(top[net], place / SITES);
            bottom[net] = Math.max(bottom[net], place / SITES);
        }

        /** The length of a net as it was measured last. */
        int spanOf(int net) {
            if (!list.hasNet(net) || right[net] < left[net]) {
                return 0;
            }
            return right[net] - left[net] + bottom[net] - top[net];
        }

        int spanOfAll() {
            measure();
            int sum = 0;
            for (int net = 0; net < list.netCount; net++) {
                sum += spanOf(net);
            }
            return sum;
        }

        int exchangeAll() {
            int exchanges = 0;
            while (exchanges < MOST_EXCHANGES && exchangeFirst()) {
                exchanges++;
            }
            return exchanges;
        }

        /** Exchanges the first pair of cells by which wires become shorter; whether there was one. */
        private boolean exchangeFirst() {
            int before = spanOfAll();
            for (int cell = 0; cell < list.cellCount; cell++) {
                for (int other = cell + 1; other < list.cellCount; other++) {
                    if (places[cell] == NONE || places[other] == NONE || list.widthOf(cell) != list.widthOf(other)) {
                        continue;
                    }
                    swap(cell, other);
                    if (spanOfAll() < before) {
                        return true;
                    }
                    swap(cell, other);
                }
            }
            return false;
        }

        private void swap(int cell, int other) {
            int place = at(cell);
            put(cell, at(other), isTurnedAt(cell));
            put(other, place, isTurnedAt(other));
        }

        private boolean isTurnedAt(int cell) {
            return cell >= 0 && cell < MOST_CELLS && isTurned[cell];
        }

        /** How many steps two places are apart. */
        static int steps(int place, int other) {
            return Math.abs(place % SITES - other % SITES) + Math.abs(place / SITES - other / SITES);
        }

        /** By how much the voltage is less at a cell that has a place. */
        int lossAt(int cell) {
            int place = at(cell);
            int sum = 0;
            for (int other = 0; other < list.cellCount; other++) {
                if (places[other] != NONE && places[other] / SITES == place / SITES) {
                    int near = Math.min(place % SITES, places[other] % SITES);
                    int far = Math.max(place % SITES, places[other] % SITES);
                    sum += list.library.driveOf(list.kindOf(other)) * (near + 1) * (SITES - far);
                }
            }
            return sum / (SITES + 1);
        }

        int exchangeDomain(int cell, int domain) {
            if (!list.hasCell(cell)) {
                return NONE;
            }
            int before = domains[cell];
            domains[cell] = domain;
            return before;
        }

        /** Pairs of a cell and an input of another one, no shifter, in unlike domains. */
        int crossings() {
            int pairs = 0;
            for (int cell = 0; cell < list.cellCount; cell++) {
                for (int input = 0; input < MOST_PINS; input++) {
                    int driver = list.driverOf(list.netAt(cell, input));
                    if (list.hasCell(driver) && domains[driver] != domains[cell] && list.typeOf(cell) != 'l') {
                        pairs++;
                    }
                }
            }
            return pairs;
        }
    }

    /** The ways in which the cells of a row can stand in their order, and the one of least moves. */
    private static final class Legalizer {
        private static final int TOO_FAR = 100000;
        private final Netlist list;
        private final Floor floor;
        private final boolean[] isFree = new boolean[SITES];
        private final int[] queue = new int[MOST_CELLS];
        private final int[][] least = new int[MOST_CELLS + 1][SITES + 1];
        private int queued;

        Legalizer(Netlist list, Floor floor) {
            this.list = list;
            this.floor = floor;
        }

        int size() {
            return queued;
        }

        /** Finds the least sum of moves of the cells that should be in a row; -1 if they do not fit. */
        int plan(int row) {
            lineUp(row);
            findFree(row);
            for (int x = 0; x <= SITES; x++) {
                least[queued][x] = 0;
            }
            for (int index = queued - 1; index >= 0; index--) {
                least[index][SITES] = TOO_FAR;
                for (int x = SITES - 1; x >= 0; x--) {
                    least[index][x] = Math.min(least[index][x + 1], costAt(index, x));
                }
            }
            return least[0][0] < TOO_FAR ? least[0][0] : NONE;
        }

        private void lineUp(int row) {
            queued = 0;
            for (int x = 0; x < SITES; x++) {
                for (int cell = 0; cell < list.cellCount; cell++) {
                    if (floor.wishOf(cell) == SITES * row + x && queued < MOST_CELLS) {
                        queue[queued] = cell;
                        queued++;
                    }
                }
            }
        }

        private void findFree(int row) {
            for (int x = 0; x < SITES; x++) {
                isFree[x] = floor.isOpen(SITES * row + x);
                for (int cell = 0; cell < list.cellCount; cell++) {
                    int wish = floor.wishOf(cell);
                    boolean isLinedUp = wish != NONE && wish / SITES == row;
                    if (!isLinedUp && floor.isOn(cell, SITES * row + x)) {
                        isFree[x] = false;
                    }
                }
            }
        }

        /** The least moves of a cell of the queue that stands at a site, and of all behind it. */
        private int costAt(int index, int x) {
            if (index < 0 || index >= queued || x < 0) {
                return TOO_FAR;
            }
            int behind = x + list.widthOf(queue[index]);
            if (behind > SITES) {
                return TOO_FAR;
            }
            for (int site = x; site < behind; site++) {
                if (!isFree[site]) {
                    return TOO_FAR;
                }
            }
            return Math.abs(x - floor.wishOf(queue[index]) % SITES) + least[index + 1][behind];
        }

        /** Places the cells as they were planned, each one as far to the left as the least sum lets it. */
        void carryOut(int row) {
            int next = 0;
            for (int index = 0; index < queued; index++) {
                int cost = next >= 0 && next <= SITES ? least[index][next] : TOO_FAR;
                for (int x = next; x < SITES; x++) {
                    if (costAt(index, x) == cost) {
                        floor.put(queue[index], SITES * row + x, false);
                        next = x + list.widthOf(queue[index]);
                        break;
                    }
                }
            }
        }
    }

    /** The tree of the clock, and the skews of flip-flops. */
    private static final class Clock {
        private static final int MOST_POINTS = 36;
        private final Netlist list;
        private final Floor floor;
        private final int[] sites = new int[MOST_POINTS];
        private final int[] rows = new int[MOST_POINTS];
        private final int[] delays = new int[MOST_POINTS];
        private final int[] parents = new int[MOST_POINTS];
        private final boolean[] isAbove = new boolean[MOST_POINTS];
        private final int[] line = new int[MOST_POINTS];
        private final int[] leaves = new int[MOST_CELLS];
        private final int[] skews = new int[MOST_CELLS];
        private int points;
        private int lined;
        private int delayOfAll;
        private boolean isGrown;

        Clock(Netlist list, Floor floor) {
            this.list = list;
            this.floor = floor;
        }

        void fell() {
            isGrown = false;
            delayOfAll = 0;
        }

        int exchangeSkew(int cell, int skew) {
            if (!list.hasCell(cell)) {
                return 0;
            }
            int before = skews[cell];
            skews[cell] = skew;
            return before;
        }

        /** Makes the tree and returns the length of its wires. */
        int grow() {
            points = 0;
            lined = 0;
            for (int cell = 0; cell < list.cellCount; cell++) {
                leaves[cell] = NONE;
                int place = floor.at(cell);
                if (list.isFlop(cell) && place != NONE) {
                    leaves[cell] = append(place % SITES, place / SITES, 0);
                }
            }
            int length = 0;
            for (int left = lined; left > 1; left--) {
                length += joinNearest();
            }
            isGrown = true;
            delayOfAll = points > 0 ? delays[points - 1] : 0;
            return length;
        }

        private int append(int site, int row, int delay) {
            if (points >= MOST_POINTS || lined >= MOST_POINTS) {
                return NONE;
            }
            sites[points] = site;
            rows[points] = row;
            delays[points] = delay;
            parents[points] = NONE;
            line[lined] = points;
            lined++;
            points++;
            return points - 1;
        }

        /** Makes one point of the two that are the least apart and returns how long the wires to both are. */
        private int joinNearest() {
            int first = NONE;
            int second = NONE;
            int least = UNBOUND;
            for (int index = 0; index < lined; index++) {
                for (int other = index + 1; other < lined; other++) {
                    int apart = stepsBetween(line[index], line[other]);
                    if (apart < least) {
                        least = apart;
                        first = index;
                        second = other;
                    }
                }
            }
            if (first == NONE || second == NONE) {
                return 0;
            }
            int one = line[first];
            int two = line[second];
            takeOut(second);
            takeOut(first);
            return join(one, two);
        }

        private int join(int one, int two) {
            if (!isPoint(one) || !isPoint(two)) {
                return 0;
            }
            int middle = append((sites[one] + sites[two]) / 2, (rows[one] + rows[two]) / 2, 0);
            if (!isPoint(middle)) {
                return 0;
            }
            int delay = Math.max(delays[one] + stepsBetween(one, middle), delays[two] + stepsBetween(two, middle));
            delays[middle] = delay;
            parents[one] = middle;
            parents[two] = middle;
            return delay - delays[one] + delay - delays[two];
        }

        private boolean isPoint(int point) {
            return point >= 0 && point < points;
        }

        private int stepsBetween(int one, int two) {
            if (!isPoint(one) || !isPoint(two)) {
                return 0;
            }
            return Math.abs(sites[one] - sites[two]) + Math.abs(rows[one] - rows[two]);
        }

        private void takeOut(int index) {
            for (int next = index + 1; next < lined; next++) {
                if (next > 0) {
                    line[next - 1] = line[next];
                }
            }
            lined--;
        }

        int arrivalAt(int cell) {
            return cell >= 0 && cell < MOST_CELLS ? delayOfAll + skews[cell] : 0;
        }

        /** How long the way of the clock is that two flip-flops have in common. */
        int sharedWay(int cell, int other) {
            if (!isGrown || cell < 0 || cell >= MOST_CELLS || other < 0 || other >= MOST_CELLS) {
                return 0;
            }
            for (int point = 0; point < points; point++) {
                isAbove[point] = false;
            }
            int climbing = leaves[cell];
            for (int step = 0; step < points && climbing >= 0 && climbing < points; step++) {
                isAbove[climbing] = true;
                climbing = parents[climbing];
            }
            climbing = leaves[other];
            for (int step = 0; step < points && climbing >= 0 && climbing < points; step++) {
                if (isAbove[climbing]) {
                    return delayOfAll - delays[climbing];
                }
                climbing = parents[climbing];
            }
            return 0;
        }
    }

    /** The chain of flip-flops for tests. */
    private static final class Chain {
        private final Netlist list;
        private final Floor floor;
        private final Clock clock;
        private final int[] cells = new int[MOST_CELLS];
        private final boolean[] isIn = new boolean[MOST_CELLS];
        private int count;

        Chain(Netlist list, Floor floor, Clock clock) {
            this.list = list;
            this.floor = floor;
            this.clock = clock;
        }

        void unlink() {
            count = 0;
        }

        /** Makes the chain and returns its length. */
        int link() {
            count = 0;
            for (int cell = 0; cell < list.cellCount; cell++) {
                isIn[cell] = false;
            }
            int length = 0;
            int last = 0;
            for (int link = 0; link < list.cellCount; link++) {
                int cell = nearestTo(last);
                if (!list.hasCell(cell) || count >= MOST_CELLS) {
                    break;
                }
                length += count == 0 ? 0 : Floor.steps(last, floor.at(cell));
                last = floor.at(cell);
                isIn[cell] = true;
                cells[count] = cell;
                count++;
            }
            return length;
        }

        private int nearestTo(int place) {
            int nearest = NONE;
            int least = UNBOUND;
            for (int cell = 0; cell < list.cellCount; cell++) {
                int own = floor.at(cell);
                if (list.isFlop(cell) && !isIn[cell] && own != NONE && Floor.steps(place, own) < least) {
                    least = Floor.steps(place, own);
                    nearest = cell;
                }
            }
            return nearest;
        }

        int cellAt(int index) {
            return index >= 0 && index < count ? cells[index] : NONE;
        }

        int latches() {
            int needed = 0;
            for (int index = 1; index < count; index++) {
                if (clock.arrivalAt(cells[index]) > clock.arrivalAt(cells[index - 1])) {
                    needed++;
                }
            }
            return needed;
        }
    }

    /** Wires over edges; the layer 0 goes along rows, 1 along sites, and an edge has the place where it begins. */
    private static final class Router {
        private static final int FULL_COST = 8;
        private final Netlist list;
        private final Floor floor;
        private final int[][] wires = new int[MOST_NETS][2 * PLACES];
        private final int[] lengths = new int[MOST_NETS];
        private final int[] used = new int[2 * PLACES];
        private final int[] history = new int[2 * PLACES];
        private final boolean[] isInTree = new boolean[PLACES];
        private final boolean[] isPin = new boolean[PLACES];
        private int across = 4;
        private int down = 3;
        private boolean isDone;

        Router(Netlist list, Floor floor) {
            this.list = list;
            this.floor = floor;
        }

        /** How many lines there are along which a layer goes. */
        static int linesOf(int layer) {
            return layer == 0 ? ROWS : SITES;
        }

        /** The last position on a line of a layer. */
        static int lastOf(int layer) {
            return layer == 0 ? SITES - 1 : ROWS - 1;
        }

        int capacityOf(int layer) {
            return layer == 0 ? across : down;
        }

        void widen(int newAcross, int newDown) {
            across = newAcross;
            down = newDown;
            tearOut();
        }

        /** Takes all wires out; without any there is nothing to do. */
        void tearOut() {
            if (!isDone) {
                return;
            }
            isDone = false;
            for (int edge = 0; edge < 2 * PLACES; edge++) {
                used[edge] = 0;
                history[edge] = 0;
            }
            for (int net = 0; net < MOST_NETS; net++) {
                lengths[net] = 0;
                for (int edge = 0; edge < 2 * PLACES; edge++) {
                    wires[net][edge] = 0;
                }
            }
        }

        void runAll() {
            tearOut();
            for (int net = 0; net < list.netCount; net++) {
                run(net);
            }
            isDone = true;
        }

        /** Routes nets over edges that are over full again, until none is. */
        void relieve(int rounds) {
            for (int round = 0; round < rounds && excess() > 0; round++) {
                for (int edge = 0; edge < 2 * PLACES; edge++) {
                    if (isOverFull(edge)) {
                        history[edge]++;
                    }
                }
                for (int net = 0; net < list.netCount; net++) {
                    if (isOverFullAnywhere(net)) {
                        takeOut(net);
                        run(net);
                    }
                }
            }
        }

        private boolean isOverFull(int edge) {
            return edge >= 0 && edge < 2 * PLACES && used[edge] > capacityOf(edge / PLACES);
        }

        private boolean isOverFullAnywhere(int net) {
            for (int edge = 0; edge < 2 * PLACES; edge++) {
                if (list.hasNet(net) && wires[net][edge] > 0 && isOverFull(edge)) {
                    return true;
                }
            }
            return false;
        }

        private void takeOut(int net) {
            for (int edge = 0; edge < 2 * PLACES; edge++) {
                if (list.hasNet(net) && wires[net][edge] > 0) {
                    wires[net][edge] = 0;
                    lengths[net]--;
                    used[edge]--;
                }
            }
        }

        /** By how many wires edges are over full, in all. */
        int excess() {
            int sum = 0;
            for (int edge = 0; edge < 2 * PLACES; edge++) {
                sum += Math.max(0, used[edge] - capacityOf(edge / PLACES));
            }
            return sum;
        }

        int wireLengthOf(int net) {
            return net >= 0 && net < MOST_NETS ? lengths[net] : 0;
        }

        int wiresOn(int layer, int place) {
            int edge = PLACES * layer + place;
            return edge >= 0 && edge < 2 * PLACES ? used[edge] : 0;
        }

        private void run(int net) {
            floor.markPins(net, isPin);
            for (int place = 0; place < PLACES; place++) {
                isInTree[place] = false;
            }
            plant(floor.driverPlace(net));
            for (int pin = 0; pin < PLACES; pin++) {
                int place = nextPin();
                if (place == NONE) {
                    break;
                }
                joinUp(net, nearestTo(place), place);
            }
        }

        private void plant(int place) {
            if (place >= 0 && place < PLACES) {
                isInTree[place] = true;
            }
        }

        /** The pin out of the tree that is the nearest to it; -1 if there is none. */
        private int nextPin() {
            int next = NONE;
            int least = UNBOUND;
            for (int place = 0; place < PLACES; place++) {
                if (isPin[place] && !isInTree[place]) {
                    int nearest = nearestTo(place);
                    if (nearest != NONE && Floor.steps(nearest, place) < least) {
                        least = Floor.steps(nearest, place);
                        next = place;
                    }
                }
            }
            return next;
        }

        /** The place of the tree that is the nearest one, of several the lowest; -1 if there is none. */
        private int nearestTo(int pin) {
            int nearest = NONE;
            int least = UNBOUND;
            for (int place = 0; place < PLACES; place++) {
                if (isInTree[place] && Floor.steps(place, pin) < least) {
                    least = Floor.steps(place, pin);
                    nearest = place;
                }
            }
            return nearest;
        }

        private void joinUp(int net, int from, int pin) {
            int alongRow = SITES * (from / SITES) + pin % SITES;
            int alongSite = SITES * (pin / SITES) + from % SITES;
            int rowCost = go(net, from, alongRow, false) + go(net, alongRow, pin, false);
            int siteCost = go(net, from, alongSite, false) + go(net, alongSite, pin, false);
            int corner = siteCost < rowCost ? alongSite : alongRow;
            go(net, from, corner, true);
            go(net, corner, pin, true);
        }

        /** What it costs to go straight from a place to another one; lays the wires, too, if told. */
        private int go(int net, int from, int to, boolean isLaying) {
            int layer = from / SITES == to / SITES ? 0 : 1;
            int stride = layer == 0 ? 1 : SITES;
            int cost = 0;
            for (int place = Math.min(from, to); place < Math.max(from, to); place += stride) {
                cost += costOf(net, PLACES * layer + place);
                if (isLaying) {
                    layWire(net, PLACES * layer + place);
                    plant(place);
                    plant(place + stride);
                }
            }
            return cost;
        }

        private int costOf(int net, int edge) {
            if (edge < 0 || edge >= 2 * PLACES || !list.hasNet(net) || wires[net][edge] > 0) {
                return 0;
            }
            return 1 + history[edge] + (used[edge] >= capacityOf(edge / PLACES) ? FULL_COST : 0);
        }

        private void layWire(int net, int edge) {
            if (edge >= 0 && edge < 2 * PLACES && list.hasNet(net) && wires[net][edge] == 0) {
                wires[net][edge] = 1;
                lengths[net]++;
                used[edge]++;
            }
        }

        private boolean isWire(int net, int layer, int line, int at) {
            int edge = layer == 0 ? SITES * line + at : PLACES + SITES * at + line;
            return at >= 0 && at < lastOf(layer) && line >= 0 && line < linesOf(layer) && list.hasNet(net)
                    && wires[net][edge] > 0;
        }

        /** Where the wires of a net along a line end that begin at a position; -1 if none begin there. */
        int endOfRun(int net, int layer, int line, int from) {
            if (isWire(net, layer, line, from - 1) || !isWire(net, layer, line, from)) {
                return NONE;
            }
            int end = from;
            while (end < lastOf(layer) && isWire(net, layer, line, end)) {
                end++;
            }
            return end;
        }
    }

    /** The shapes on tracks, and the rules for them. */
    private static final class Drawing {
        private final Netlist list;
        private final Router router;
        private final int[] layers = new int[MOST_SHAPES];
        private final int[] lines = new int[MOST_SHAPES];
        private final int[] tracks = new int[MOST_SHAPES];
        private final int[] froms = new int[MOST_SHAPES];
        private final int[] tos = new int[MOST_SHAPES];
        private final int[] nets = new int[MOST_SHAPES];
        private final int[] sorted = new int[MOST_SHAPES];
        private final int[] ends = new int[MOST_TRACKS];
        private final int[] runs = new int[MOST_NETS];
        private final int[] sums = new int[MOST_NETS];
        private final int[][] beside = new int[MOST_NETS][MOST_NETS];
        private int count;
        private int gap = 1;
        private int leastLength = 1;
        private int leastFill;
        private int mostFill = 100;
        private int mostAntenna = 99;
        private boolean isWhole;

        Drawing(Netlist list, Router router) {
            this.list = list;
            this.router = router;
        }

        boolean has(int shape) {
            return shape >= 0 && shape < count;
        }

        int netOn(int shape) {
            return shape >= 0 && shape < count ? nets[shape] : NONE;
        }

        void wipe() {
            isWhole = false;
            if (count == 0) {
                return;
            }
            count = 0;
            for (int net = 0; net < MOST_NETS; net++) {
                for (int other = 0; other < MOST_NETS; other++) {
                    beside[net][other] = 0;
                }
            }
        }

        boolean append(int layer, int line, int track, int from, int to, int net) {
            if (count >= MOST_SHAPES) {
                return false;
            }
            layers[count] = layer;
            lines[count] = line;
            tracks[count] = track;
            froms[count] = from;
            tos[count] = to;
            nets[count] = net;
            count++;
            couple(count - 1, 1);
            return true;
        }

        int takeAway(int index) {
            int net = netOn(index);
            isWhole = false;
            couple(index, -1);
            for (int shape = index < 0 ? count : index; shape < count - 1; shape++) {
                layers[shape] = layers[shape + 1];
                lines[shape] = lines[shape + 1];
                tracks[shape] = tracks[shape + 1];
                froms[shape] = froms[shape + 1];
                tos[shape] = tos[shape + 1];
                nets[shape] = nets[shape + 1];
            }
            count = Math.max(0, count - 1);
            return net;
        }

        /** Counts what a shape has beside it, or takes that off again. */
        private void couple(int shape, int sign) {
            if (shape < 0 || shape >= count || !list.hasNet(nets[shape])) {
                return;
            }
            for (int other = 0; other < count; other++) {
                int apart = tracks[shape] - tracks[other];
                int both = Math.min(tos[shape], tos[other]) - Math.max(froms[shape], froms[other]);
                if (isOnLineOf(shape, other) && (apart == 1 || apart == -1) && both > 0
                        && list.hasNet(nets[other]) && nets[other] != nets[shape]) {
                    beside[nets[shape]][nets[other]] += sign * both;
                    beside[nets[other]][nets[shape]] += sign * both;
                }
            }
        }

        int besideOf(int net, int other) {
            return net >= 0 && net < MOST_NETS && other >= 0 && other < MOST_NETS ? beside[net][other] : 0;
        }

        /** Lays the wires on tracks and returns how many could not be laid. */
        int lay(int newGap) {
            gap = newGap;
            wipe();
            int left = 0;
            for (int layer = 0; layer <= 1; layer++) {
                for (int line = 0; line < Router.linesOf(layer); line++) {
                    left += layLine(layer, line);
                }
            }
            isWhole = left == 0;
            return left;
        }

        private int layLine(int layer, int line) {
            int left = 0;
            for (int track = 0; track < MOST_TRACKS; track++) {
                ends[track] = -gap;
            }
            for (int from = 0; from < Router.lastOf(layer); from++) {
                left += layFrom(layer, line, from);
            }
            return left;
        }

        /** Lays the wires that begin at a position, by where they end, then by nets; returns how many it could not. */
        private int layFrom(int layer, int line, int from) {
            for (int net = 0; net < list.netCount; net++) {
                runs[net] = router.endOfRun(net, layer, line, from);
            }
            int left = 0;
            for (int to = from + 1; to <= Router.lastOf(layer); to++) {
                for (int net = 0; net < list.netCount; net++) {
                    if (runs[net] == to && !layRun(layer, line, from, to, net)) {
                        left++;
                    }
                }
            }
            return left;
        }

        private boolean layRun(int layer, int line, int from, int to, int net) {
            for (int track = 0; track < router.capacityOf(layer) && track < MOST_TRACKS; track++) {
                if (from >= ends[track] + gap) {
                    ends[track] = to;
                    return append(layer, line, track, from, to, net);
                }
            }
            return false;
        }

        /** What a letter asks of a shape; -1 if there is no such letter. */
        int tell(int shape, char what) {
            if (!has(shape)) {
                return NONE;
            }
            switch (what) {
                case 'l':
                    return layers[shape];
                case 'i':
                    return lines[shape];
                case 't':
                    return tracks[shape];
                case 'a':
                    return froms[shape];
                case 'z':
                    return tos[shape];
                case 'n':
                    return nets[shape];
                case 'm':
                    return tracks[shape] % 2;
                default:
                    return NONE;
            }
        }

        int exchangeRules(int least, int low, int high, int antenna) {
            int before = leastLength;
            leastLength = least;
            leastFill = low;
            mostFill = high;
            mostAntenna = antenna;
            return before;
        }

        /** Whether two shapes are on one row or site. */
        boolean isOnLineOf(int shape, int other) {
            return shape >= 0 && shape < count && other >= 0 && other < count
                    && layers[shape] == layers[other] && lines[shape] == lines[other];
        }

        boolean isOnTrackOf(int shape, int other) {
            return isOnLineOf(shape, other) && tracks[shape] == tracks[other];
        }

        /** Whether two shapes on one track have a place in common. */
        boolean isOverlapping(int shape, int other) {
            return isOnLineOf(shape, other) && tracks[shape] == tracks[other]
                    && froms[shape] <= tos[other] && froms[other] <= tos[shape];
        }

        /** Whether one shape of a row and one of a site have a place in common. */
        boolean isCrossing(int shape, int other) {
            return has(shape) && has(other) && layers[shape] != layers[other]
                    && froms[shape] <= lines[other] && lines[other] <= tos[shape]
                    && froms[other] <= lines[shape] && lines[shape] <= tos[other];
        }

        boolean isCovering(int shape, int place) {
            if (!has(shape)) {
                return false;
            }
            int line = layers[shape] == 0 ? place / SITES : place % SITES;
            int at = layers[shape] == 0 ? place % SITES : place / SITES;
            return lines[shape] == line && froms[shape] <= at && at <= tos[shape];
        }

        /** Pairs whose gap is too small, by a sweep along each track. */
        int narrowBySweep() {
            sort();
            int pairs = 0;
            for (int index = 0; index < count; index++) {
                int shape = sorted[index];
                for (int next = index + 1; next < count; next++) {
                    int other = sorted[next];
                    if (!isOnTrackOf(shape, other) || froms[other] >= tos[shape] + gap) {
                        break;
                    }
                    if (nets[other] != nets[shape]) {
                        pairs++;
                    }
                }
            }
            return pairs;
        }

        private void sort() {
            for (int shape = 0; shape < count; shape++) {
                int index = shape;
                while (index > 0 && isAhead(shape, sorted[index - 1])) {
                    sorted[index] = sorted[index - 1];
                    index--;
                }
                sorted[index] = shape;
            }
        }

        /** Whether a shape is met ahead of another one by a sweep. */
        private boolean isAhead(int shape, int other) {
            if (!has(shape) || !has(other)) {
                return false;
            }
            if (layers[shape] != layers[other]) {
                return layers[shape] < layers[other];
            }
            if (lines[shape] != lines[other]) {
                return lines[shape] < lines[other];
            }
            if (tracks[shape] != tracks[other]) {
                return tracks[shape] < tracks[other];
            }
            return froms[shape] < froms[other];
        }

        int narrowByPairs() {
            int pairs = 0;
            for (int shape = 0; shape < count; shape++) {
                for (int other = shape + 1; other < count; other++) {
                    if (nets[shape] != nets[other] && isOnTrackOf(shape, other)
                            && froms[shape] < tos[other] + gap && froms[other] < tos[shape] + gap) {
                        pairs++;
                    }
                }
            }
            return pairs;
        }

        int tooShort() {
            int found = 0;
            for (int shape = 0; shape < count; shape++) {
                if (tos[shape] - froms[shape] < leastLength) {
                    found++;
                }
            }
            return found;
        }

        /** How many windows have a fill that is out of its bounds. */
        int oddWindows() {
            int odd = 0;
            for (int start = 0; start < SITES; start += 8) {
                int steps = 0;
                for (int shape = 0; shape < count; shape++) {
                    if (layers[shape] == 0) {
                        steps += Math.max(0, Math.min(tos[shape], start + 8) - Math.max(froms[shape], start));
                    }
                }
                int whole = 48 * router.capacityOf(0);
                int fill = whole > 0 ? 100 * steps / whole : 0;
                if (fill < leastFill || fill > mostFill) {
                    odd++;
                }
            }
            return odd;
        }

        /** How many nets with inputs, none of a diode, have too long shapes of rows for these. */
        int antennas() {
            for (int net = 0; net < list.netCount; net++) {
                sums[net] = 0;
            }
            for (int shape = 0; shape < count; shape++) {
                if (layers[shape] == 0 && list.hasNet(nets[shape])) {
                    sums[nets[shape]] += tos[shape] - froms[shape];
                }
            }
            int found = 0;
            for (int net = 0; net < list.netCount; net++) {
                if (isAntenna(net, sums[net])) {
                    found++;
                }
            }
            return found;
        }

        private boolean isAntenna(int net, int length) {
            int inputs = 0;
            for (int cell = 0; cell < list.cellCount; cell++) {
                for (int input = 0; input < MOST_PINS; input++) {
                    if (list.netAt(cell, input) == net) {
                        inputs++;
                        if (list.typeOf(cell) == 'd') {
                            return false;
                        }
                    }
                }
            }
            return inputs > 0 && length / inputs > mostAntenna;
        }

        long addTo(long start) {
            long sum = start;
            for (int shape = 0; shape < count; shape++) {
                sum = 31 * sum + lines[shape] + 7 * tracks[shape] + nets[shape];
            }
            return sum;
        }
    }

    /** What is drawn, compared with the net. */
    private static final class Comparison {
        private final Netlist list;
        private final Floor floor;
        private final Drawing drawing;
        private final boolean[] isPin = new boolean[PLACES];
        private final boolean[] isPlaceReached = new boolean[PLACES];
        private final boolean[] isShapeReached = new boolean[MOST_SHAPES];
        private final int[] queue = new int[MOST_SHAPES + PLACES];
        private final int[][] touching = new int[MOST_NETS][MOST_NETS];
        private int queued;

        Comparison(Netlist list, Floor floor, Drawing drawing) {
            this.list = list;
            this.floor = floor;
            this.drawing = drawing;
        }

        boolean isAlike() {
            return openNets() == 0 && shortPairs() == 0;
        }

        int openNets() {
            int open = 0;
            for (int net = 0; net < list.netCount; net++) {
                if (isOpen(net)) {
                    open++;
                }
            }
            return open;
        }

        /** Goes from the first pin of a net to all that is joined with it, and tells whether a pin is left. */
        private boolean isOpen(int net) {
            floor.markPins(net, isPin);
            start();
            for (int index = 0; index < queued; index++) {
                int reached = queue[index];
                if (reached >= MOST_SHAPES) {
                    reachShapesAt(net, reached - MOST_SHAPES);
                } else {
                    reachFrom(net, reached);
                }
            }
            for (int place = 0; place < PLACES; place++) {
                if (isPin[place] && !isPlaceReached[place]) {
                    return true;
                }
            }
            return false;
        }

        private void start() {
            queued = 0;
            for (int shape = 0; shape < MOST_SHAPES; shape++) {
                isShapeReached[shape] = false;
            }
            for (int place = 0; place < PLACES; place++) {
                isPlaceReached[place] = false;
            }
            for (int place = 0; place < PLACES; place++) {
                if (isPin[place]) {
                    reachPlace(place);
                    return;
                }
            }
        }

        private void reachPlace(int place) {
            if (place >= 0 && place < PLACES && !isPlaceReached[place] && queued < queue.length) {
                isPlaceReached[place] = true;
                queue[queued] = MOST_SHAPES + place;
                queued++;
            }
        }

        private void reachShape(int shape) {
            if (drawing.has(shape) && !isShapeReached[shape] && queued < queue.length) {
                isShapeReached[shape] = true;
                queue[queued] = shape;
                queued++;
            }
        }

        private void reachShapesAt(int net, int place) {
            for (int shape = 0; shape < drawing.count; shape++) {
                if (drawing.netOn(shape) == net && drawing.isCovering(shape, place)) {
                    reachShape(shape);
                }
            }
        }

        private void reachFrom(int net, int reached) {
            for (int shape = 0; shape < drawing.count; shape++) {
                if (drawing.netOn(shape) == net
                        && (drawing.isCrossing(shape, reached) || drawing.isOverlapping(shape, reached))) {
                    reachShape(shape);
                }
            }
            for (int place = 0; place < PLACES; place++) {
                if (isPin[place] && drawing.isCovering(reached, place)) {
                    reachPlace(place);
                }
            }
        }

        int shortPairs() {
            for (int net = 0; net < MOST_NETS; net++) {
                for (int other = 0; other < MOST_NETS; other++) {
                    touching[net][other] = 0;
                }
            }
            int pairs = 0;
            for (int shape = 0; shape < drawing.count; shape++) {
                for (int other = shape + 1; other < drawing.count; other++) {
                    if (drawing.isOverlapping(shape, other)) {
                        pairs += touch(drawing.netOn(shape), drawing.netOn(other));
                    }
                }
            }
            return pairs;
        }

        /** How many pairs of nets more have a short by this one: 1, or 0 if it is known, or no pair. */
        private int touch(int net, int other) {
            if (!list.hasNet(net) || !list.hasNet(other) || net == other || touching[net][other] > 0) {
                return 0;
            }
            touching[net][other] = 1;
            touching[other][net] = 1;
            return 1;
        }
    }

    /** Times from net to net, and by paths. */
    private static final class Timer {
        private static final int NEVER = -1000000;
        private static final int BY_ALL = -2;
        private static final int BY_INPUTS = -1;
        private static final int AT_OUTPUT = -1;
        private static final int ROUNDS = 4;
        private final Netlist list;
        private final Floor floor;
        private final Clock clock;
        private final Router router;
        private final Drawing drawing;
        private final boolean[] isFalse = new boolean[MOST_CELLS];
        private final int[] cycles = new int[MOST_CELLS];
        private final int[] loads = new int[MOST_NETS];
        private final int[] delays = new int[MOST_CELLS];
        private final int[] lates = new int[MOST_NETS];
        private final int[] earlies = new int[MOST_NETS];
        private final int[] deltas = new int[MOST_NETS];
        private final int[] found = new int[MOST_NETS];
        private int period = 100;
        private int derate;

        Timer(Netlist list, Floor floor, Clock clock, Router router, Drawing drawing) {
            this.list = list;
            this.floor = floor;
            this.clock = clock;
            this.router = router;
            this.drawing = drawing;
            for (int cell = 0; cell < MOST_CELLS; cell++) {
                cycles[cell] = 1;
            }
        }

        boolean markFalse(int cell, boolean is) {
            if (!list.hasCell(cell)) {
                return false;
            }
            boolean before = isFalse[cell];
            isFalse[cell] = is;
            return before;
        }

        int exchangeCycles(int cell, int number) {
            if (!list.hasCell(cell)) {
                return NONE;
            }
            int before = cycles[cell];
            cycles[cell] = number;
            return before;
        }

        int latestAt(int net, int corner) {
            prepare(corner);
            sweepLate(BY_ALL);
            return list.hasNet(net) && lates[net] != NEVER ? lates[net] : NONE;
        }

        int earliestAt(int net, int corner) {
            prepare(corner);
            sweepEarly(BY_ALL);
            return list.hasNet(net) && earlies[net] != NEVER ? earlies[net] : NONE;
        }

        int deltaOf(int net) {
            prepare(1);
            return list.hasNet(net) ? deltas[net] : 0;
        }

        /** Finds loads, deltas and the delays in a corner. */
        private void prepare(int corner) {
            list.arrange();
            floor.measure();
            weigh();
            findDeltas();
            slow(corner);
        }

        private void weigh() {
            for (int net = 0; net < list.netCount; net++) {
                loads[net] = (router.isDone ? router.wireLengthOf(net) : floor.spanOf(net)) / 2;
            }
            for (int cell = 0; cell < list.cellCount; cell++) {
                int load = list.library.loadOf(list.kindOf(cell));
                burden(list.netAt(cell, 0), load);
                burden(list.netAt(cell, 1), load);
            }
            for (int output = 0; output < list.outputCount; output++) {
                burden(list.outputNetOf(output), 2);
            }
        }

        private void burden(int net, int load) {
            if (list.hasNet(net)) {
                loads[net] += load;
            }
        }

        private void slow(int corner) {
            for (int cell = 0; cell < list.cellCount; cell++) {
                int net = list.drivenBy(cell);
                delays[cell] = list.hasNet(net) ? list.library.delayOf(list.kindOf(cell), loads[net], corner) : 0;
            }
        }

        /** Times make deltas, and deltas make times; so both are found in turn. */
        private void findDeltas() {
            for (int net = 0; net < list.netCount; net++) {
                deltas[net] = 0;
            }
            if (drawing.count == 0) {
                return;
            }
            slow(1);
            for (int round = 0; round < ROUNDS; round++) {
                sweepLate(BY_ALL);
                sweepEarly(BY_ALL);
                for (int net = 0; net < list.netCount; net++) {
                    found[net] = besideInTime(net) / 2;
                }
                for (int net = 0; net < list.netCount; net++) {
                    deltas[net] = found[net];
                }
            }
        }

        private int besideInTime(int net) {
            int sum = 0;
            for (int other = 0; other < list.netCount; other++) {
                if (other != net && isMeeting(net, other)) {
                    sum += drawing.besideOf(net, other);
                }
            }
            return sum;
        }

        /** Whether the times of two nets meet; a net to which no path comes has none. */
        private boolean isMeeting(int net, int other) {
            return net >= 0 && net < MOST_NETS && other >= 0 && other < MOST_NETS
                    && lates[net] != NEVER && lates[other] != NEVER
                    && earlies[net] <= lates[other] && earlies[other] <= lates[net];
        }

        private int derated(int time) {
            return time * (100 + derate) / 100;
        }

        /** Whether the cell is a flip-flop at which paths of a start begin. */
        private boolean isStart(int cell, int launch) {
            return list.isFlop(cell) && !isFalse[cell] && (launch == BY_ALL || launch == cell);
        }

        /** Finds the latest times of all nets, from all starts, from inputs of the chip, or from one flip-flop. */
        private void sweepLate(int launch) {
            for (int net = 0; net < list.netCount; net++) {
                int driver = list.driverOf(net);
                lates[net] = NEVER;
                if (driver == NONE && launch < 0) {
                    lates[net] = deltas[net];
                } else if (list.hasCell(driver) && isStart(driver, launch)) {
                    lates[net] = derated(clock.arrivalAt(driver)) + delays[driver] + deltas[net];
                }
            }
            for (int index = 0; index < list.ordered; index++) {
                int gate = list.gateAt(index);
                int net = list.drivenBy(gate);
                int latest = Math.max(timeIn(lates, list.netAt(gate, 0)), timeIn(lates, list.netAt(gate, 1)));
                if (latest != NEVER && list.hasCell(gate) && list.hasNet(net) && !isFalse[gate]) {
                    lates[net] = latest + derated(delays[gate]) + deltas[net];
                }
            }
        }

        private void sweepEarly(int launch) {
            for (int net = 0; net < list.netCount; net++) {
                int driver = list.driverOf(net);
                earlies[net] = NEVER;
                if (driver == NONE && launch < 0) {
                    earlies[net] = 0;
                } else if (list.hasCell(driver) && isStart(driver, launch)) {
                    earlies[net] = clock.arrivalAt(driver) + delays[driver];
                }
            }
            for (int index = 0; index < list.ordered; index++) {
                int gate = list.gateAt(index);
                int net = list.drivenBy(gate);
                int first = timeIn(earlies, list.netAt(gate, 0));
                int second = timeIn(earlies, list.netAt(gate, 1));
                int earliest = first == NEVER ? second : second == NEVER ? first : Math.min(first, second);
                if (earliest != NEVER && list.hasCell(gate) && list.hasNet(net) && !isFalse[gate]) {
                    earlies[net] = earliest + delays[gate];
                }
            }
        }

        private int timeIn(int[] times, int net) {
            return net >= 0 && net < times.length ? times[net] : NEVER;
        }

        /** What is given back for a path from a flip-flop to another one. */
        private int givenBack(int launch, int cell) {
            return launch < 0 || cell < 0 ? 0 : clock.sharedWay(launch, cell) * derate / 100;
        }

        /** When late changes must come to a flip-flop, or to an output. */
        private int dueAt(int cell) {
            if (cell < 0 || cell >= MOST_CELLS) {
                return period;
            }
            return clock.arrivalAt(cell) + cycles[cell] * period - 2;
        }

        /** The time to spare at an end of paths of one start, from the latest times. */
        private int spareAt(int cell, int net, int launch) {
            int latest = timeIn(lates, net);
            return latest == NEVER ? UNBOUND : dueAt(cell) - latest + givenBack(launch, cell);
        }

        private boolean isLaunch(int launch) {
            return launch == BY_INPUTS || list.isFlop(launch);
        }

        int spareLate(int cell, int corner) {
            prepare(corner);
            int least = UNBOUND;
            for (int launch = BY_INPUTS; launch < list.cellCount; launch++) {
                if (isLaunch(launch)) {
                    sweepLate(launch);
                    least = Math.min(least, spareAt(cell, list.netAt(cell, 0), launch));
                }
            }
            return least;
        }

        int spareEarly(int cell, int corner) {
            prepare(corner);
            int least = UNBOUND;
            for (int launch = BY_INPUTS; launch < list.cellCount; launch++) {
                if (isLaunch(launch)) {
                    sweepEarly(launch);
                    int earliest = timeIn(earlies, list.netAt(cell, 0));
                    if (earliest != NEVER) {
                        int bound = derated(clock.arrivalAt(cell)) + 1;
                        least = Math.min(least, earliest - bound + givenBack(launch, cell));
                    }
                }
            }
            return least;
        }

        int spareOut(int output, int corner) {
            prepare(corner);
            sweepLate(BY_ALL);
            return spareAt(AT_OUTPUT, list.outputNetOf(output), BY_ALL);
        }

        int leastByNets(int corner) {
            prepare(corner);
            int least = UNBOUND;
            for (int launch = BY_INPUTS; launch < list.cellCount; launch++) {
                if (isLaunch(launch)) {
                    sweepLate(launch);
                    least = Math.min(least, leastOfStart(launch));
                }
            }
            return least;
        }

        private int leastOfStart(int launch) {
            int least = UNBOUND;
            for (int cell = 0; cell < list.cellCount; cell++) {
                if (list.isFlop(cell)) {
                    least = Math.min(least, spareAt(cell, list.netAt(cell, 0), launch));
                }
            }
            for (int output = 0; output < list.outputCount; output++) {
                least = Math.min(least, spareAt(AT_OUTPUT, list.outputNetOf(output), launch));
            }
            return least;
        }

        int leastByPaths(int corner) {
            prepare(corner);
            int least = UNBOUND;
            for (int cell = 0; cell < list.cellCount; cell++) {
                if (list.isFlop(cell)) {
                    least = Math.min(least, leastOfPaths(cell, list.netAt(cell, 0), 0, 0));
                }
            }
            for (int output = 0; output < list.outputCount; output++) {
                least = Math.min(least, leastOfPaths(AT_OUTPUT, list.outputNetOf(output), 0, 0));
            }
            return least;
        }

        /** The least time to spare of all paths to an end, from there back; so much was spent behind the net. */
        private int leastOfPaths(int end, int net, int spent, int depth) {
            if (!list.hasNet(net) || depth > MOST_CELLS) {
                return UNBOUND;
            }
            int time = spent + deltas[net];
            int driver = list.driverOf(net);
            if (!list.hasCell(driver)) {
                return dueAt(end) - time;
            }
            if (isFalse[driver]) {
                return UNBOUND;
            }
            if (list.isFlop(driver)) {
                return dueAt(end) - time - derated(clock.arrivalAt(driver)) - delays[driver] + givenBack(driver, end);
            }
            time += derated(delays[driver]);
            int first = list.netAt(driver, 0);
            int second = list.netAt(driver, 1);
            int least = leastOfPaths(end, first, time, depth + 1);
            // two inputs at one net make paths that are alike; one of them will do
            return first == second ? least : Math.min(least, leastOfPaths(end, second, time, depth + 1));
        }
    }

    /** Buffers, and kinds that leak less. */
    private static final class Tuner {
        private final Netlist list;
        private final Floor floor;
        private final Timer timer;
        private final int[] chosen = new int[MOST_BUFFERED];

        Tuner(Netlist list, Floor floor, Timer timer) {
            this.list = list;
            this.floor = floor;
            this.timer = timer;
        }

        /** Puts a buffer into a net with at most six sinks and returns the worst time then. */
        int putIn(int net, int kind, int place) {
            int count = Math.min(list.gatherSinks(net), MOST_BUFFERED);
            for (int index = 0; index < count; index++) {
                chosen[index] = list.sinkAt(index);
            }
            int cell = list.appendCell(kind);
            int target = list.drivenBy(cell);
            list.attach(cell, 0, net);
            list.markPutIn(cell);
            floor.put(cell, place, false);
            int best = 0;
            int bestTime = 0;
            for (int set = 1; set < 1 << count; set++) {
                divide(count, set, net, target);
                int time = timer.leastByNets(1);
                if (best == 0 || time > bestTime) {
                    best = set;
                    bestTime = time;
                }
            }
            divide(count, best, net, target);
            for (int index = 0; index < count; index++) {
                if ((best >> index & 1) == 1) {
                    list.settleSink(chosen[index]);
                }
            }
            return bestTime;
        }

        private void divide(int count, int set, int net, int target) {
            for (int index = 0; index < count && index < MOST_BUFFERED; index++) {
                list.moveSink(chosen[index], (set >> index & 1) == 1 ? target : net);
            }
        }

        /** Takes the first kind that leaks less and does no harm; else the cell keeps its own. */
        void lessen(int cell) {
            int own = list.kindOf(cell);
            int before = timer.leastByNets(2);
            for (int leak = 0; leak < list.library.leakOf(own); leak++) {
                int kind = list.library.nextAlike(own, leak, 0);
                for (int tried = 0; tried < MOST_KINDS && kind != NONE; tried++) {
                    list.exchangeKind(cell, kind);
                    int time = timer.leastByNets(2);
                    if (time >= 0 || time >= before) {
                        return;
                    }
                    kind = list.library.nextAlike(own, leak, kind + 1);
                }
            }
            list.exchangeKind(cell, own);
        }
    }
}
