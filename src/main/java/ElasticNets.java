import java.util.Arrays;

/**
 * A clocked design of blocks and registers, made into a machine that waits wherever a token is not
 * there yet or has no room.
 */
public final class ElasticNets {
    public static final int NONE = -1;

    private static final int MOST_BLOCKS = 10;
    private static final int MOST_CHANNELS = 20;
    private static final int MOST_PORTS = 4;
    private static final int MOST_BEHIND = 3;
    private static final int MOST_TICKS = 1000;
    private static final int LAST_OPERATION = 4;

    /** The buffers that one channel can have. */
    private static final int ROW = 1 + MOST_BEHIND;
    /** The tokens that one buffer can have. */
    private static final int ROOM = 2;
    /**
     * A block's inputs and branches are kept as links: a channel's number as it is, a port's number
     * behind those of all channels.
     */
    private static final int MOST_LINKS = MOST_CHANNELS + MOST_PORTS;

    private final Design design;
    private final Patient patient;
    private final Clocked clocked;
    private final Pace pace;
    private boolean built;

    public ElasticNets() {
        design = new Design();
        patient = new Patient(design);
        clocked = new Clocked(design, patient.takenValues);
        pace = new Pace(design);
        built = false;
    }

    public int block(int operation, int c) throws IllegalStateException, IllegalArgumentException {
        mustNotBeBuilt();
        if (operation < 0 || operation > LAST_OPERATION) {
            throw new IllegalArgumentException("no such operation");
        }
        return design.addBlock(operation, c);
    }

    public int channel(int from, int to, int value) throws IllegalStateException, IllegalArgumentException {
        mustNotBeBuilt();
        mustBeOneOf(design.blocks, from);
        mustBeOneOf(design.blocks, to);
        return design.addChannel(from, to, value);
    }

    public int input(int to) throws IllegalStateException, IllegalArgumentException {
        mustNotBeBuilt();
        mustBeOneOf(design.blocks, to);
        return design.addInput(to);
    }

    public int output(int from) throws IllegalStateException, IllegalArgumentException {
        mustNotBeBuilt();
        mustBeOneOf(design.blocks, from);
        return design.addOutput(from);
    }

    public int buffers(int channel, int n) throws IllegalStateException, IllegalArgumentException {
        mustNotBeBuilt();
        mustBeOneOf(design.channels, channel);
        mustBeOneOf(MOST_BEHIND + 1, n);
        int before = design.behind[channel];
        design.behind[channel] = n;
        return before;
    }

    public int build() throws IllegalStateException {
        mustNotBeBuilt();
        built = true;
        pace.forget();
        standAtStart();
        return design.countBuffers();
    }

    public int clear() {
        int before = design.blocks;
        design.empty();
        built = false;
        return before;
    }

    public void restart() throws IllegalStateException {
        mustBeBuilt();
        standAtStart();
    }

    public boolean offer(int port, int value) throws IllegalStateException, IllegalArgumentException {
        mustBeBuilt();
        mustBeOneOf(design.inputs, port);
        return patient.letWait(port, value);
    }

    public int tick(int stalled) throws IllegalStateException {
        mustBeBuilt();
        if (patient.ticks >= MOST_TICKS) {
            return NONE;
        }
        return patient.step(stalled);
    }

    public int run(int n, int stalled) throws IllegalStateException, IllegalArgumentException {
        mustBeBuilt();
        mustBeOneOf(MOST_TICKS + 1, n);
        int steps = Math.min(n, MOST_TICKS - patient.ticks);
        for (int i = 0; i < steps; i++) {
            patient.step(stalled);
        }
        return steps;
    }

    public int ticks() throws IllegalStateException {
        mustBeBuilt();
        return patient.ticks;
    }

    public int turns(int block) throws IllegalStateException, IllegalArgumentException {
        mustBeBuilt();
        mustBeOneOf(design.blocks, block);
        return patient.turns[block];
    }

    public int got(int block) throws IllegalStateException, IllegalArgumentException {
        mustBeBuilt();
        mustBeOneOf(design.blocks, block);
        return patient.got[block];
    }

    public int inside(int channel, int buffer) throws IllegalStateException, IllegalArgumentException {
        mustBeBuilt();
        mustBeOneOf(design.channels, channel);
        mustBeOneOf(design.behind[channel] + 1, buffer);
        return patient.count[channel * ROW + buffer];
    }

    public int taken(int port) throws IllegalStateException, IllegalArgumentException {
        mustBeBuilt();
        mustBeOneOf(design.inputs, port);
        return patient.takenCount[port];
    }

    public int given(int port) throws IllegalStateException, IllegalArgumentException {
        mustBeBuilt();
        mustBeOneOf(design.outputs, port);
        return patient.givenCount[port];
    }

    public long value(int port, int k)
            throws IllegalStateException, IllegalArgumentException, IndexOutOfBoundsException {
        mustBeBuilt();
        mustBeOneOf(design.outputs, port);
        if (k < 0 || k >= patient.givenCount[port]) {
            throw new IndexOutOfBoundsException("the port has not got so many");
        }
        return patient.givenValues[port][k];
    }

    public int byClock(int port, int k)
            throws IllegalStateException, IllegalArgumentException, IndexOutOfBoundsException {
        mustBeBuilt();
        mustBeOneOf(design.outputs, port);
        if (k < 0 || k >= MOST_TICKS || k >= patient.leastTaken()) {
            throw new IndexOutOfBoundsException("no such cycle, or nothing was taken for it");
        }
        return clocked.givenIn(port, k);
    }

    public int rate(int what) throws IllegalStateException, IllegalArgumentException {
        mustBeBuilt();
        mustBeOneOf(2, what);
        pace.find();
        return what == 0 ? pace.tokens : pace.length;
    }

    private void standAtStart() {
        patient.reset();
        clocked.reset();
    }

    private void mustBeBuilt() {
        if (!built) {
            throw new IllegalStateException("it is not built");
        }
    }

    private void mustNotBeBuilt() {
        if (built) {
            throw new IllegalStateException("it is built");
        }
    }

    private static void mustBeOneOf(int count, int number) {
        if (number < 0 || number >= count) {
            throw new IllegalArgumentException("no such number");
        }
    }

    /** What has been added, and in which order. */
    private static final class Design {
        int blocks = 0;
        int channels = 0;
        int inputs = 0;
        int outputs = 0;

        final int[] operation = new int[MOST_BLOCKS];
        final int[] constant = new int[MOST_BLOCKS];

        final int[] from = new int[MOST_CHANNELS];
        final int[] to = new int[MOST_CHANNELS];
        final int[] first = new int[MOST_CHANNELS];
        final int[] behind = new int[MOST_CHANNELS];

        final int[] outputFrom = new int[MOST_PORTS];

        final int[][] ins = new int[MOST_BLOCKS][MOST_LINKS];
        final int[] inCount = new int[MOST_BLOCKS];
        final int[][] branches = new int[MOST_BLOCKS][MOST_LINKS];
        final int[] branchCount = new int[MOST_BLOCKS];

        void empty() {
            blocks = 0;
            channels = 0;
            inputs = 0;
            outputs = 0;
        }

        int addBlock(int itsOperation, int itsConstant) {
            if (blocks >= MOST_BLOCKS) {
                return NONE;
            }
            operation[blocks] = itsOperation;
            constant[blocks] = itsConstant;
            inCount[blocks] = 0;
            branchCount[blocks] = 0;
            return blocks++;
        }

        int addChannel(int itsFrom, int itsTo, int value) {
            if (channels >= MOST_CHANNELS) {
                return NONE;
            }
            from[channels] = itsFrom;
            to[channels] = itsTo;
            first[channels] = value;
            behind[channels] = 0;
            linkOut(itsFrom, channels);
            linkIn(itsTo, channels);
            return channels++;
        }

        int addInput(int itsTo) {
            if (inputs >= MOST_PORTS) {
                return NONE;
            }
            linkIn(itsTo, MOST_CHANNELS + inputs);
            return inputs++;
        }

        int addOutput(int itsFrom) {
            if (outputs >= MOST_PORTS) {
                return NONE;
            }
            outputFrom[outputs] = itsFrom;
            linkOut(itsFrom, MOST_CHANNELS + outputs);
            return outputs++;
        }

        private void linkIn(int block, int link) {
            ins[block][inCount[block]] = link;
            inCount[block]++;
        }

        private void linkOut(int block, int link) {
            branches[block][branchCount[block]] = link;
            branchCount[block]++;
        }

        int countBuffers() {
            int all = channels;
            for (int channel = 0; channel < channels; channel++) {
                all += behind[channel];
            }
            return all;
        }

        int lastBuffer(int channel) {
            return channel * ROW + behind[channel];
        }

        /** What a block makes, when each link has the value that stands at its number in seen. */
        int makes(int block, int[] seen) {
            int v = constant[block];
            for (int i = 0; i < inCount[block]; i++) {
                v = joined(operation[block], v, seen[ins[block][i]]);
            }
            return v;
        }

        private static int joined(int operation, int v, int x) {
            switch (operation) {
                case 0:
                    return v + x;
                case 1:
                    return v ^ x;
                case 2:
                    return v * x;
                case 3:
                    return Math.max(v, x);
                default:
                    return 31 * v + x;
            }
        }
    }

    /** The patient machine. Buffers are numbered through, ROW of them for each channel. */
    private static final class Patient {
        final Design design;
        int ticks = 0;

        final int[] tokens = new int[MOST_CHANNELS * ROW * ROOM];
        final int[] count = new int[MOST_CHANNELS * ROW];
        /** The counts at the tick's beginning: what happens in it hangs on these alone. */
        final int[] before = new int[MOST_CHANNELS * ROW];
        /** The values that stood before the blocks at the tick's beginning, link by link. */
        final int[] seen = new int[MOST_LINKS];

        final int[] turns = new int[MOST_BLOCKS];
        final int[] got = new int[MOST_BLOCKS];
        /** Which branches of a block get in this tick, as bits; NONE when it is not ready. */
        final int[] gets = new int[MOST_BLOCKS];

        /** At which input ports a value waits, as bits. */
        int waiting = 0;
        final int[] waitingValues = new int[MOST_PORTS];
        final int[] takenCount = new int[MOST_PORTS];
        final int[][] takenValues = new int[MOST_PORTS][MOST_TICKS];
        final int[] givenCount = new int[MOST_PORTS];
        final long[][] givenValues = new long[MOST_PORTS][MOST_TICKS];

        Patient(Design itsDesign) {
            design = itsDesign;
        }

        void reset() {
            ticks = 0;
            waiting = 0;
            Arrays.fill(turns, 0);
            Arrays.fill(got, 0);
            Arrays.fill(takenCount, 0);
            Arrays.fill(givenCount, 0);
            Arrays.fill(count, 0);
            for (int channel = 0; channel < design.channels; channel++) {
                put(channel * ROW, design.first[channel]);
            }
        }

        boolean letWait(int port, int value) {
            if (waitsAt(port) || takenCount[port] >= MOST_TICKS) {
                return false;
            }
            waiting |= 1 << port;
            waitingValues[port] = value;
            return true;
        }

        private boolean waitsAt(int port) {
            return (waiting >> port & 1) == 1;
        }

        /** For how many cycles every input port has taken a value. */
        int leastTaken() {
            int least = MOST_TICKS;
            for (int port = 0; port < design.inputs; port++) {
                least = Math.min(least, takenCount[port]);
            }
            return least;
        }

        /** One tick; the caller sees to it that there are no more than MOST_TICKS. */
        int step(int stalled) {
            look();
            for (int block = 0; block < design.blocks; block++) {
                gets[block] = isReady(block) ? whichGet(block, stalled) : NONE;
            }
            for (int channel = 0; channel < design.channels; channel++) {
                moveOn(channel);
            }
            int told = 0;
            for (int block = 0; block < design.blocks; block++) {
                if (gets[block] != NONE) {
                    told |= act(block);
                }
            }
            ticks++;
            return told;
        }

        private void look() {
            System.arraycopy(count, 0, before, 0, count.length);
            for (int channel = 0; channel < design.channels; channel++) {
                seen[channel] = tokens[design.lastBuffer(channel) * ROOM];
            }
            for (int port = 0; port < design.inputs; port++) {
                seen[MOST_CHANNELS + port] = waitingValues[port];
            }
        }

        private boolean isReady(int block) {
            for (int i = 0; i < design.inCount[block]; i++) {
                if (!isThere(design.ins[block][i])) {
                    return false;
                }
            }
            return true;
        }

        private boolean isThere(int link) {
            if (link < MOST_CHANNELS) {
                return before[design.lastBuffer(link)] > 0;
            }
            return waitsAt(link - MOST_CHANNELS);
        }

        private int whichGet(int block, int stalled) {
            int which = 0;
            for (int i = 0; i < design.branchCount[block]; i++) {
                boolean gotYet = (got[block] >> i & 1) == 1;
                if (!gotYet && canGet(design.branches[block][i], stalled)) {
                    which |= 1 << i;
                }
            }
            return which;
        }

        private boolean canGet(int link, int stalled) {
            if (link < MOST_CHANNELS) {
                return before[link * ROW] < ROOM;
            }
            return (stalled >> (link - MOST_CHANNELS) & 1) == 0;
        }

        private void moveOn(int channel) {
            int last = design.lastBuffer(channel);
            for (int buffer = channel * ROW; buffer < last; buffer++) {
                if (before[buffer] > 0 && before[buffer + 1] < ROOM) {
                    put(buffer + 1, tokens[buffer * ROOM]);
                    drop(buffer);
                }
            }
        }

        private int act(int block) {
            int told = 0;
            int made = design.makes(block, seen);
            for (int i = 0; i < design.branchCount[block]; i++) {
                if ((gets[block] >> i & 1) == 1) {
                    told |= give(design.branches[block][i], made);
                }
            }
            got[block] |= gets[block];
            if (got[block] == (1 << design.branchCount[block]) - 1) {
                told |= endTurn(block);
            }
            return told;
        }

        private int give(int link, int made) {
            if (link < MOST_CHANNELS) {
                put(link * ROW, made);
                return 0;
            }
            int port = link - MOST_CHANNELS;
            givenValues[port][givenCount[port]] = ((long) ticks << 32) | (made & 0xFFFFFFFFL);
            givenCount[port]++;
            return 1 << port;
        }

        private int endTurn(int block) {
            int told = 0;
            for (int i = 0; i < design.inCount[block]; i++) {
                told |= take(design.ins[block][i]);
            }
            got[block] = 0;
            turns[block]++;
            return told;
        }

        private int take(int link) {
            if (link < MOST_CHANNELS) {
                drop(design.lastBuffer(link));
                return 0;
            }
            int port = link - MOST_CHANNELS;
            waiting &= ~(1 << port);
            takenValues[port][takenCount[port]] = waitingValues[port];
            takenCount[port]++;
            return 16 << port;
        }

        private void put(int buffer, int token) {
            tokens[buffer * ROOM + count[buffer]] = token;
            count[buffer]++;
        }

        private void drop(int buffer) {
            tokens[buffer * ROOM] = tokens[buffer * ROOM + 1];
            count[buffer]--;
        }
    }

    /** The machine by the clock. It goes on from where it stands, as what was taken stays. */
    private static final class Clocked {
        final Design design;
        final int[][] takenValues;
        int cycles = 0;
        /** What the registers have, and the input ports behind them, link by link. */
        final int[] seen = new int[MOST_LINKS];
        final int[] made = new int[MOST_BLOCKS];
        final int[][] gave = new int[MOST_PORTS][MOST_TICKS];

        Clocked(Design itsDesign, int[][] valuesOfInputs) {
            design = itsDesign;
            takenValues = valuesOfInputs;
        }

        void reset() {
            cycles = 0;
            for (int channel = 0; channel < design.channels; channel++) {
                seen[channel] = design.first[channel];
            }
        }

        /** The caller sees to it that k is below MOST_TICKS and that all inputs have a value for it. */
        int givenIn(int port, int k) {
            for (int cycle = cycles; cycle <= k; cycle++) {
                goThrough(cycle);
            }
            cycles = Math.max(cycles, k + 1);
            return gave[port][k];
        }

        private void goThrough(int cycle) {
            for (int port = 0; port < design.inputs; port++) {
                seen[MOST_CHANNELS + port] = takenValues[port][cycle];
            }
            for (int block = 0; block < design.blocks; block++) {
                made[block] = design.makes(block, seen);
            }
            for (int channel = 0; channel < design.channels; channel++) {
                seen[channel] = made[design.from[channel]];
            }
            for (int port = 0; port < design.outputs; port++) {
                gave[port][cycle] = made[design.outputFrom[port]];
            }
        }
    }

    /**
     * The rate: beginning with 1, as no block goes faster than one turn a tick, a cycle with a lower
     * ratio is looked for until there is none.
     */
    private static final class Pace {
        /** Nodes: the blocks' readys, their ends, then ROW for each channel, its own the first. */
        private static final int FIRST_END = MOST_BLOCKS;
        private static final int FIRST_OF_CHANNELS = 2 * MOST_BLOCKS;
        private static final int MOST_NODES = FIRST_OF_CHANNELS + MOST_CHANNELS * ROW;
        private static final int MOST_ARCS = 2 * MOST_BLOCKS + 2 * MOST_CHANNELS + 2 * MOST_CHANNELS * ROW;
        /** Far above the number of ratios that cycles over MOST_NODES nodes can have. */
        private static final int MOST_SEARCHES = 1000000;

        final Design design;
        boolean known = false;
        int tokens = 1;
        int length = 1;

        int nodes = 0;
        int arcs = 0;
        final int[] arcFrom = new int[MOST_ARCS];
        final int[] arcTo = new int[MOST_ARCS];
        final int[] arcTokens = new int[MOST_ARCS];
        final int[] arcLength = new int[MOST_ARCS];

        final int[] distance = new int[MOST_NODES];
        /** The arc by which a node's distance became what it is, or NONE. */
        final int[] arcInto = new int[MOST_NODES];

        Pace(Design itsDesign) {
            design = itsDesign;
        }

        void forget() {
            known = false;
        }

        void find() {
            if (known) {
                return;
            }
            drawGraph();
            tokens = 1;
            length = 1;
            for (int search = 0; search < MOST_SEARCHES; search++) {
                int node = onLowerCycle();
                if (node == NONE) {
                    break;
                }
                takeRatio(node);
            }
            known = true;
        }

        private void drawGraph() {
            arcs = 0;
            nodes = 2 * design.blocks + design.countBuffers();
            for (int block = 0; block < design.blocks; block++) {
                addArc(block, FIRST_END + block, 0, 0);
                addArc(FIRST_END + block, block, 1, 1);
            }
            for (int channel = 0; channel < design.channels; channel++) {
                drawChannel(channel);
            }
        }

        private void drawChannel(int channel) {
            int own = FIRST_OF_CHANNELS + channel * ROW;
            addArc(design.from[channel], own, 0, 0);
            addArc(own, FIRST_END + design.from[channel], 0, 0);
            int last = design.behind[channel];
            for (int buffer = 0; buffer <= last; buffer++) {
                int atFirst = buffer == 0 ? 1 : 0;
                int ahead = buffer < last ? own + buffer + 1 : design.to[channel];
                int back = buffer < last ? own + buffer + 1 : FIRST_END + design.to[channel];
                addArc(own + buffer, ahead, atFirst, 1);
                addArc(back, own + buffer, ROOM - atFirst, 1);
            }
        }

        private void addArc(int from, int to, int itsTokens, int itsLength) {
            arcFrom[arcs] = from;
            arcTo[arcs] = to;
            arcTokens[arcs] = itsTokens;
            arcLength[arcs] = itsLength;
            arcs++;
        }

        /**
         * A node on a cycle whose ratio is below the one found so far, or NONE. Such a cycle is one of
         * negative weight, and there is one just if distances still shrink in the round that no path
         * without a cycle is long enough for.
         */
        private int onLowerCycle() {
            Arrays.fill(distance, 0);
            Arrays.fill(arcInto, NONE);
            int node = NONE;
            for (int round = 0; round < nodes; round++) {
                node = shrinkAll();
                if (node == NONE) {
                    return NONE;
                }
            }
            // The way back from that node is longer than the nodes are many, so it ends on a cycle.
            for (int i = 0; i < nodes && node != NONE; i++) {
                node = nodeBefore(node);
            }
            return node;
        }

        /** Goes over all arcs once; the last node whose distance shrank, or NONE. */
        private int shrinkAll() {
            int shrunk = NONE;
            for (int arc = 0; arc < arcs; arc++) {
                int weight = arcTokens[arc] * length - arcLength[arc] * tokens;
                int way = distance[arcFrom[arc]] + weight;
                if (way < distance[arcTo[arc]]) {
                    distance[arcTo[arc]] = way;
                    arcInto[arcTo[arc]] = arc;
                    shrunk = arcTo[arc];
                }
            }
            return shrunk;
        }

        private int nodeBefore(int node) {
            return arcInto[node] == NONE ? NONE : arcFrom[arcInto[node]];
        }

        private void takeRatio(int start) {
            int sumTokens = 0;
            int sumLength = 0;
            int node = start;
            for (int i = 0; i < nodes && arcInto[node] != NONE; i++) {
                int arc = arcInto[node];
                sumTokens += arcTokens[arc];
                sumLength += arcLength[arc];
                node = arcFrom[arc];
                if (node == start) {
                    break;
                }
            }
            int divisor = commonDivisor(sumTokens, sumLength);
            tokens = sumTokens / divisor;
            length = sumLength / divisor;
        }

        private static int commonDivisor(int a, int b) {
            for (int divisor = Math.min(a, b); divisor > 1; divisor--) {
                if (a % divisor == 0 && b % divisor == 0) {
                    return divisor;
                }
            }
            return 1;
        }
    }
}
