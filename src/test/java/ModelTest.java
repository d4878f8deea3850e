import java.math.BigInteger;
import java.util.ArrayDeque;
import java.util.ArrayList;
import java.util.Arrays;
import java.util.Deque;
import java.util.HashMap;
import java.util.HashSet;
import java.util.List;
import java.util.Map;
import java.util.Random;
import java.util.Set;

/**
 * Made-up runs of calls, right and wrong ones, on the class and on a second machine that is written
 * straight along the document's words. The seeds are fixed, so each time the runs are the same.
 */
public final class ModelTest {
    private static final int RUNS = 1500;
    /** So many calls an object is used for; what later ones answer is free. */
    private static final int CALLS = 512;
    private static final int RATES = 1500;
    private static final int MOST_FAULTS = 20;

    private static int wrong = 0;

    private interface Call {
        long answer();
    }

    private static String told(Call call) {
        try {
            return Long.toString(call.answer());
        } catch (RuntimeException e) {
            return e.getClass().getSimpleName();
        }
    }

    private static void compare(String where, String got, String want) {
        if (!got.equals(want)) {
            wrong++;
            if (wrong <= MOST_FAULTS) {
                System.out.println(where + " answered " + got + ", due is " + want);
            }
        }
    }

    public static void main(String[] args) {
        for (int seed = 0; seed < RUNS; seed++) {
            new Run(seed).go();
        }
        for (int seed = 0; seed < RATES; seed++) {
            checkRate(new Random(seed), seed);
        }
        System.out.println(wrong == 0 ? "class and model agree" : wrong + " answers are not as due");
        if (wrong != 0) {
            System.exit(1);
        }
    }

    /** One run of calls on both. */
    private static final class Run {
        final int seed;
        final Random random;
        final ElasticNets real = new ElasticNets();
        final Model model = new Model();
        int calls = 0;

        Run(int seed) {
            this.seed = seed;
            this.random = new Random(seed);
        }

        void go() {
            while (calls < CALLS) {
                design();
                both("build", new int[0]);
                int use = 20 + random.nextInt(200);
                for (int i = 0; i < use && calls < CALLS; i++) {
                    useOnce();
                }
                if (random.nextInt(3) > 0) {
                    both("clear", new int[0]);
                }
            }
        }

        void design() {
            int blocks = 1 + random.nextInt(random.nextInt(4) == 0 ? 11 : 4);
            for (int i = 0; i < blocks; i++) {
                both("block", random.nextInt(20) == 0 ? random.nextInt(8) - 1 : random.nextInt(5), number());
            }
            int pieces = random.nextInt(random.nextInt(4) == 0 ? 50 : 14);
            for (int i = 0; i < pieces; i++) {
                switch (random.nextInt(8)) {
                    case 0 -> both("input", oneOf(blocks));
                    case 1, 2 -> both("output", oneOf(blocks));
                    case 3, 4 -> both("buffers", oneOf(6), random.nextInt(15) == 0 ? 4 : random.nextInt(4));
                    case 5 -> outOfPlace();
                    default -> both("channel", oneOf(blocks), oneOf(blocks), number());
                }
            }
        }

        /** Mostly calls that need a machine, and now and then a build that comes too early. */
        void outOfPlace() {
            String[] names = {"restart", "offer", "tick", "run", "ticks", "turns", "got", "inside", "taken",
                "given", "value", "byClock", "rate", "build"};
            both(names[random.nextInt(names.length)], random.nextInt(4) - 1, random.nextInt(4) - 1);
        }

        void useOnce() {
            int stalled = random.nextInt(3) > 0 ? 0 : random.nextInt(3) > 0 ? random.nextInt(16) : random.nextInt();
            switch (random.nextInt(22)) {
                case 0, 1, 2, 3, 4 -> both("offer", oneOf(4), number());
                case 5, 6, 7, 8 -> both("tick", stalled);
                case 9 -> both("run", random.nextInt(20) == 0 ? random.nextInt(1003) - 1 : random.nextInt(6), stalled);
                case 10 -> both("ticks", new int[0]);
                case 11 -> both("turns", oneOf(4));
                case 12, 13 -> both("got", oneOf(4));
                case 14 -> both("inside", oneOf(6), random.nextInt(6) - 1);
                case 15 -> both("taken", oneOf(4));
                case 16 -> both("given", oneOf(4));
                case 17, 18 -> both("value", oneOf(3), random.nextInt(15) - 1);
                case 19, 20 -> both("byClock", oneOf(3), random.nextInt(30) == 0 ? random.nextInt(1002) : random.nextInt(12) - 1);
                default -> rarely();
            }
        }

        void rarely() {
            String[] names = {"restart", "build", "block", "channel", "input", "output", "buffers", "rate"};
            both(names[random.nextInt(names.length)], 0, 0, 0);
        }

        int oneOf(int count) {
            return random.nextInt(25) == 0 ? random.nextInt(30) - 3 : random.nextInt(count);
        }

        int number() {
            return random.nextInt(2) == 0 ? random.nextInt(20) - 10 : random.nextInt();
        }

        /** Nothing is asked behind the last call that has an answer. */
        void both(String name, int... a) {
            if (calls == CALLS) {
                return;
            }
            calls++;
            String where = "seed " + seed + ", call " + calls + ": " + name + Arrays.toString(a);
            compare(where, told(() -> onReal(real, name, a)), told(() -> onModel(model, name, a)));
        }
    }

    private static long onReal(ElasticNets x, String name, int[] a) {
        switch (name) {
            case "block": return x.block(a[0], a[1]);
            case "channel": return x.channel(a[0], a[1], a[2]);
            case "input": return x.input(a[0]);
            case "output": return x.output(a[0]);
            case "buffers": return x.buffers(a[0], a[1]);
            case "build": return x.build();
            case "clear": return x.clear();
            case "restart": x.restart(); return 0;
            case "offer": return x.offer(a[0], a[1]) ? 1 : 0;
            case "tick": return x.tick(a[0]);
            case "run": return x.run(a[0], a[1]);
            case "ticks": return x.ticks();
            case "turns": return x.turns(a[0]);
            case "got": return x.got(a[0]);
            case "inside": return x.inside(a[0], a[1]);
            case "taken": return x.taken(a[0]);
            case "given": return x.given(a[0]);
            case "value": return x.value(a[0], a[1]);
            case "byClock": return x.byClock(a[0], a[1]);
            default: return x.rate(a[0]);
        }
    }

    private static long onModel(Model x, String name, int[] a) {
        boolean designing = Set.of("block", "channel", "input", "output", "buffers", "build").contains(name);
        if (!name.equals("clear") && designing == x.built) {
            throw new IllegalStateException();
        }
        switch (name) {
            case "block": return x.block(a[0], a[1]);
            case "channel": return x.channel(a[0], a[1], a[2]);
            case "input": return x.input(a[0]);
            case "output": return x.output(a[0]);
            case "buffers": return x.buffers(a[0], a[1]);
            case "build": return x.build();
            case "clear": return x.clear();
            case "restart": x.restart(); return 0;
            case "offer": return x.offer(a[0], a[1]) ? 1 : 0;
            case "tick": return x.ticks >= 1000 ? -1 : x.tick(a[0]);
            case "run": return x.run(a[0], a[1]);
            case "ticks": return x.ticks;
            case "turns": return x.of(x.blocks, a[0]).turns;
            case "got": return x.got(a[0]);
            case "inside": return x.of(x.of(x.channels, a[0]).row, a[1]).size();
            case "taken": return x.of(x.inputs, a[0]).taken.size();
            case "given": return x.of(x.outputs, a[0]).given.size();
            case "value": return x.value(a[0], a[1]);
            case "byClock": return x.byClock(a[0], a[1]);
            default: return x.rate(a[0]);
        }
    }

    private static class Link {
    }

    private static final class Channel extends Link {
        int from;
        int to;
        int first;
        int behind = 0;
        final List<Deque<Integer>> row = new ArrayList<>();
    }

    private static final class Input extends Link {
        Integer waits = null;
        final List<Integer> taken = new ArrayList<>();
    }

    private static final class Output extends Link {
        int from;
        int number;
        final List<Long> given = new ArrayList<>();
    }

    private static final class Block {
        int operation;
        int c;
        final List<Link> in = new ArrayList<>();
        final List<Link> out = new ArrayList<>();
        final Set<Link> got = new HashSet<>();
        int turns = 0;

        int make(Map<Link, Integer> values) {
            int v = c;
            for (Link link : in) {
                int x = values.get(link);
                long wide = operation == 0 ? (long) v + x
                        : operation == 1 ? v ^ x
                        : operation == 2 ? (long) v * x
                        : operation == 3 ? (v > x ? v : x)
                        : 31L * v + x;
                v = (int) wide;
            }
            return v;
        }
    }

    /** The document's words, with no care for room or time. */
    private static final class Model {
        final List<Block> blocks = new ArrayList<>();
        final List<Channel> channels = new ArrayList<>();
        final List<Input> inputs = new ArrayList<>();
        final List<Output> outputs = new ArrayList<>();
        boolean built = false;
        int ticks = 0;
        int[] rateKnown = null;

        <T> T of(List<T> list, int number) {
            if (number < 0 || number >= list.size()) {
                throw new IllegalArgumentException();
            }
            return list.get(number);
        }

        int block(int operation, int c) {
            if (operation < 0 || operation > 4) {
                throw new IllegalArgumentException();
            }
            if (blocks.size() == 10) {
                return -1;
            }
            Block block = new Block();
            block.operation = operation;
            block.c = c;
            blocks.add(block);
            return blocks.size() - 1;
        }

        int channel(int from, int to, int value) {
            Block source = of(blocks, from);
            Block target = of(blocks, to);
            if (channels.size() == 20) {
                return -1;
            }
            Channel channel = new Channel();
            channel.from = from;
            channel.to = to;
            channel.first = value;
            source.out.add(channel);
            target.in.add(channel);
            channels.add(channel);
            return channels.size() - 1;
        }

        int input(int to) {
            Block target = of(blocks, to);
            if (inputs.size() == 4) {
                return -1;
            }
            Input input = new Input();
            target.in.add(input);
            inputs.add(input);
            return inputs.size() - 1;
        }

        int output(int from) {
            Block source = of(blocks, from);
            if (outputs.size() == 4) {
                return -1;
            }
            Output output = new Output();
            output.from = from;
            output.number = outputs.size();
            source.out.add(output);
            outputs.add(output);
            return outputs.size() - 1;
        }

        int buffers(int number, int n) {
            Channel channel = of(channels, number);
            if (n < 0 || n > 3) {
                throw new IllegalArgumentException();
            }
            int before = channel.behind;
            channel.behind = n;
            return before;
        }

        int build() {
            built = true;
            rateKnown = null;
            restart();
            int all = 0;
            for (Channel channel : channels) {
                all += channel.row.size();
            }
            return all;
        }

        int clear() {
            int before = blocks.size();
            blocks.clear();
            channels.clear();
            inputs.clear();
            outputs.clear();
            built = false;
            return before;
        }

        void restart() {
            ticks = 0;
            for (Channel channel : channels) {
                channel.row.clear();
                for (int i = 0; i <= channel.behind; i++) {
                    channel.row.add(new ArrayDeque<>());
                }
                channel.row.get(0).add(channel.first);
            }
            for (Block block : blocks) {
                block.got.clear();
                block.turns = 0;
            }
            for (Input input : inputs) {
                input.waits = null;
                input.taken.clear();
            }
            for (Output output : outputs) {
                output.given.clear();
            }
        }

        boolean offer(int port, int value) {
            Input input = of(inputs, port);
            if (input.waits != null || input.taken.size() == 1000) {
                return false;
            }
            input.waits = value;
            return true;
        }

        int run(int n, int stalled) {
            if (n < 0 || n > 1000) {
                throw new IllegalArgumentException();
            }
            int done = 0;
            while (done < n && ticks < 1000) {
                tick(stalled);
                done++;
            }
            return done;
        }

        /** All that happens is first written down, then done: takings, then bringings. */
        int tick(int stalled) {
            List<Deque<Integer>> takes = new ArrayList<>();
            List<Deque<Integer>> bringsTo = new ArrayList<>();
            List<Integer> brings = new ArrayList<>();
            for (Channel channel : channels) {
                for (int i = 0; i + 1 < channel.row.size(); i++) {
                    if (!channel.row.get(i).isEmpty() && channel.row.get(i + 1).size() < 2) {
                        takes.add(channel.row.get(i));
                        bringsTo.add(channel.row.get(i + 1));
                        brings.add(channel.row.get(i).peek());
                    }
                }
            }
            int answer = 0;
            for (Block block : blocks) {
                Map<Link, Integer> values = atHand(block);
                if (values == null) {
                    continue;
                }
                int made = block.make(values);
                for (Link link : block.out) {
                    if (block.got.contains(link)) {
                        continue;
                    }
                    if (link instanceof Channel channel && channel.row.get(0).size() < 2) {
                        bringsTo.add(channel.row.get(0));
                        brings.add(made);
                        block.got.add(link);
                    }
                    if (link instanceof Output output && (stalled & 1 << output.number) == 0) {
                        output.given.add(ticks * 4294967296L + Integer.toUnsignedLong(made));
                        answer += 1 << output.number;
                        block.got.add(link);
                    }
                }
                if (block.got.size() == block.out.size()) {
                    block.got.clear();
                    block.turns++;
                    for (Link link : block.in) {
                        if (link instanceof Channel channel) {
                            takes.add(channel.row.get(channel.behind));
                        }
                        if (link instanceof Input input) {
                            input.taken.add(input.waits);
                            input.waits = null;
                            answer += 16 << inputs.indexOf(input);
                        }
                    }
                }
            }
            for (Deque<Integer> buffer : takes) {
                buffer.remove();
            }
            for (int i = 0; i < brings.size(); i++) {
                bringsTo.get(i).add(brings.get(i));
            }
            ticks++;
            return answer;
        }

        /** What a ready block's value is made of; null when it is not ready. */
        Map<Link, Integer> atHand(Block block) {
            Map<Link, Integer> values = new HashMap<>();
            for (Link link : block.in) {
                Integer x = link instanceof Channel channel
                        ? channel.row.get(channel.behind).peek() : ((Input) link).waits;
                if (x == null) {
                    return null;
                }
                values.put(link, x);
            }
            return values;
        }

        int got(int number) {
            Block block = of(blocks, number);
            int bits = 0;
            for (int i = 0; i < block.out.size(); i++) {
                bits |= block.got.contains(block.out.get(i)) ? 1 << i : 0;
            }
            return bits;
        }

        long value(int port, int k) {
            Output output = of(outputs, port);
            if (k < 0 || k >= output.given.size()) {
                throw new IndexOutOfBoundsException();
            }
            return output.given.get(k);
        }

        int byClock(int port, int k) {
            Output output = of(outputs, port);
            if (k < 0 || k > 999) {
                throw new IndexOutOfBoundsException();
            }
            for (Input input : inputs) {
                if (input.taken.size() <= k) {
                    throw new IndexOutOfBoundsException();
                }
            }
            Map<Link, Integer> values = new HashMap<>();
            for (Channel channel : channels) {
                values.put(channel, channel.first);
            }
            for (int cycle = 0; ; cycle++) {
                for (Input input : inputs) {
                    values.put(input, input.taken.get(cycle));
                }
                List<Integer> made = new ArrayList<>();
                for (Block block : blocks) {
                    made.add(block.make(values));
                }
                if (cycle == k) {
                    return made.get(output.from);
                }
                for (Channel channel : channels) {
                    values.put(channel, made.get(channel.from));
                }
            }
        }

        int rate(int what) {
            if (what != 0 && what != 1) {
                throw new IllegalArgumentException();
            }
            if (rateKnown == null) {
                rateKnown = new Graph(this).rate();
            }
            return rateKnown[what];
        }
    }

    /**
     * The document's graph. The least tokens of all closed walks of each length are counted up, so
     * the rate comes out another way than in the class.
     */
    private static final class Graph {
        static final int FAR = 1 << 20;
        final List<int[]> arcs = new ArrayList<>();
        int nodes = 0;

        Graph(Model model) {
            int[] ready = new int[10];
            int[] end = new int[10];
            for (int i = 0; i < model.blocks.size(); i++) {
                ready[i] = nodes++;
                end[i] = nodes++;
                arcs.add(new int[] {ready[i], end[i], 0, 0});
                arcs.add(new int[] {end[i], ready[i], 1, 1});
            }
            for (Channel channel : model.channels) {
                int at = nodes++;
                arcs.add(new int[] {ready[channel.from], at, 0, 0});
                arcs.add(new int[] {at, end[channel.from], 0, 0});
                for (int i = 0; i <= channel.behind; i++) {
                    int t = i == 0 ? 1 : 0;
                    int next = i == channel.behind ? ready[channel.to] : nodes++;
                    int nextBack = i == channel.behind ? end[channel.to] : next;
                    arcs.add(new int[] {at, next, t, 1});
                    arcs.add(new int[] {nextBack, at, 2 - t, 1});
                    at = next;
                }
            }
        }

        int[] rate() {
            int tokens = 1;
            int length = 1;
            for (int start = 0; start < nodes; start++) {
                int[] least = new int[nodes];
                Arrays.fill(least, FAR);
                least[start] = 0;
                along0(least);
                for (int steps = 1; steps <= nodes; steps++) {
                    int[] next = new int[nodes];
                    Arrays.fill(next, FAR);
                    for (int[] arc : arcs) {
                        if (arc[3] == 1) {
                            next[arc[1]] = Math.min(next[arc[1]], least[arc[0]] + arc[2]);
                        }
                    }
                    along0(next);
                    least = next;
                    if (least[start] * length < tokens * steps) {
                        tokens = least[start];
                        length = steps;
                    }
                }
            }
            int divisor = BigInteger.valueOf(tokens).gcd(BigInteger.valueOf(length)).intValue();
            return new int[] {tokens / divisor, length / divisor};
        }

        /** Arcs of length 0 follow one another twice at most: ready, channel, end. */
        void along0(int[] least) {
            for (int i = 0; i < 2; i++) {
                for (int[] arc : arcs) {
                    if (arc[3] == 0) {
                        least[arc[1]] = Math.min(least[arc[1]], least[arc[0]] + arc[2]);
                    }
                }
            }
        }
    }

    /** Larger designs: the rate, and that the slowest block goes as fast as it says. */
    private static void checkRate(Random random, int seed) {
        ElasticNets real = new ElasticNets();
        Model model = new Model();
        int blocks = 1 + random.nextInt(10);
        int channels = random.nextInt(21);
        for (int i = 0; i < blocks; i++) {
            real.block(0, 0);
            model.block(0, 0);
        }
        for (int i = 0; i < channels; i++) {
            int from = seed % 2 == 0 || random.nextInt(4) == 0 ? random.nextInt(blocks) : i % blocks;
            int to = random.nextInt(4) > 0 ? (i + 1) % blocks : random.nextInt(blocks);
            int behind = random.nextInt(4);
            real.channel(from, to, 0);
            model.channel(from, to, 0);
            real.buffers(i, behind);
            model.buffers(i, behind);
        }
        real.build();
        model.build();
        compare("rate of seed " + seed, real.rate(0) + "/" + real.rate(1), model.rate(0) + "/" + model.rate(1));
        real.run(1000, 0);
        int slowest = 1000;
        for (int i = 0; i < blocks; i++) {
            slowest = Math.min(slowest, real.turns(i));
        }
        long off = Math.abs((long) slowest * real.rate(1) - 1000L * real.rate(0));
        if (off > 50L * real.rate(1)) {
            compare("turns of seed " + seed, slowest + " of 1000", real.rate(0) + "/" + real.rate(1));
        }
    }
}
