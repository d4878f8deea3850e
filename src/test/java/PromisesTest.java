/** For each promise of the document: ordinary inputs, the edges that it names, wrong inputs. */
public final class PromisesTest {
    private static final String STATE = "IllegalStateException";
    private static final String ARGUMENT = "IllegalArgumentException";
    private static final String INDEX = "IndexOutOfBoundsException";

    private static int wrong = 0;
    private static String promise = "";

    private interface Call {
        Object answer();
    }

    /** A call's answer as text, or the name of what it throws. */
    private static String told(Call call) {
        try {
            return String.valueOf(call.answer());
        } catch (RuntimeException e) {
            return e.getClass().getSimpleName();
        }
    }

    private static void due(String what, Object want, Call call) {
        String got = told(call);
        if (!got.equals(String.valueOf(want))) {
            wrong++;
            System.out.println(promise + ": " + what + " answered " + got + ", due is " + want);
        }
    }

    private static String restartOf(ElasticNets x) {
        return told(() -> {
            x.restart();
            return "done";
        });
    }

    public static void main(String[] args) {
        newObject();
        block();
        channel();
        input();
        output();
        buffers();
        build();
        clear();
        restart();
        offer();
        tick();
        tickForks();
        tickOrder();
        run();
        ticks();
        turns();
        got();
        inside();
        taken();
        given();
        value();
        byClock();
        byClockInputs();
        operations();
        orderOfInputs();
        rate();
        rateOfBackPressure();
        refusedCallsChangeNothing();
        System.out.println(wrong == 0 ? "all promises hold" : wrong + " answers are not as due");
        if (wrong != 0) {
            System.exit(1);
        }
    }

    private static void newObject() {
        promise = "1 new object";
        ElasticNets x = new ElasticNets();
        due("NONE", -1, () -> ElasticNets.NONE);
        due("ticks before build", STATE, x::ticks);
        due("restart before build", STATE, () -> restartOf(x));
        due("clear", 0, x::clear);
        due("channel without blocks", ARGUMENT, () -> x.channel(0, 0, 0));
        due("build", 0, x::build);
        due("turns", ARGUMENT, () -> x.turns(0));
        ElasticNets other = new ElasticNets();
        due("block of another object", 0, () -> other.block(0, 0));
        due("an object has its own state", STATE, () -> x.block(0, 0));
    }

    private static void block() {
        promise = "2 block";
        ElasticNets x = new ElasticNets();
        due("operation -1", ARGUMENT, () -> x.block(-1, 0));
        due("operation 5", ARGUMENT, () -> x.block(5, 0));
        for (int i = 0; i < 10; i++) {
            int number = i;
            due("block " + i, i, () -> x.block(number % 5, Integer.MIN_VALUE));
        }
        due("block 11", -1, () -> x.block(0, 0));
        due("wrong block 11 throws before NONE", ARGUMENT, () -> x.block(5, 0));
        due("build", 0, x::build);
        due("all ten are there", 0, () -> x.turns(9));
        due("no eleventh", ARGUMENT, () -> x.turns(10));
        due("block when built", STATE, () -> x.block(0, 0));
        due("wrong block when built", STATE, () -> x.block(5, 0));
    }

    private static void channel() {
        promise = "3 channel";
        ElasticNets x = new ElasticNets();
        x.block(0, 0);
        x.block(0, 0);
        due("from -1", ARGUMENT, () -> x.channel(-1, 0, 0));
        due("from 2", ARGUMENT, () -> x.channel(2, 0, 0));
        due("to -1", ARGUMENT, () -> x.channel(0, -1, 0));
        due("to 2", ARGUMENT, () -> x.channel(0, 2, 0));
        for (int i = 0; i < 20; i++) {
            int number = i;
            due("channel " + i, i, () -> x.channel(number % 2, number / 2 % 2, number));
        }
        due("channel 21", -1, () -> x.channel(0, 0, 0));
        due("wrong channel 21 throws before NONE", ARGUMENT, () -> x.channel(0, 2, 0));
        due("build", 20, x::build);
        due("channel when built", STATE, () -> x.channel(0, 0, 0));
        due("wrong channel when built", STATE, () -> x.channel(5, 5, 0));
        due("the last one's token", 1, () -> x.inside(19, 0));
        due("no twenty-first", ARGUMENT, () -> x.inside(20, 0));
    }

    private static void input() {
        promise = "4 input";
        ElasticNets x = new ElasticNets();
        x.block(0, 0);
        due("to -1", ARGUMENT, () -> x.input(-1));
        due("to 1", ARGUMENT, () -> x.input(1));
        for (int i = 0; i < 4; i++) {
            due("input " + i, i, () -> x.input(0));
        }
        due("input 5", -1, () -> x.input(0));
        due("wrong input 5 throws before NONE", ARGUMENT, () -> x.input(1));
        x.build();
        due("input when built", STATE, () -> x.input(0));
        due("wrong input when built", STATE, () -> x.input(1));
        due("port 3", 0, () -> x.taken(3));
        due("port 4", ARGUMENT, () -> x.taken(4));
    }

    private static void output() {
        promise = "5 output";
        ElasticNets x = new ElasticNets();
        x.block(0, 7);
        due("from -1", ARGUMENT, () -> x.output(-1));
        due("from 1", ARGUMENT, () -> x.output(1));
        for (int i = 0; i < 4; i++) {
            due("output " + i, i, () -> x.output(0));
        }
        due("output 5", -1, () -> x.output(0));
        due("wrong output 5 throws before NONE", ARGUMENT, () -> x.output(1));
        x.build();
        due("output when built", STATE, () -> x.output(0));
        due("wrong output when built", STATE, () -> x.output(1));
        due("a block without inputs gives to all four", 15, () -> x.tick(0));
        due("port 4", ARGUMENT, () -> x.given(4));
    }

    private static void buffers() {
        promise = "6 buffers";
        ElasticNets x = new ElasticNets();
        x.block(0, 0);
        due("no channel", ARGUMENT, () -> x.buffers(0, 0));
        x.channel(0, 0, 0);
        x.channel(0, 0, 0);
        due("n -1", ARGUMENT, () -> x.buffers(0, -1));
        due("n 4", ARGUMENT, () -> x.buffers(0, 4));
        due("channel -1", ARGUMENT, () -> x.buffers(-1, 0));
        due("channel 2", ARGUMENT, () -> x.buffers(2, 0));
        due("from none to 3", 0, () -> x.buffers(1, 3));
        due("from 3 to 2", 3, () -> x.buffers(1, 2));
        due("of the other", 0, () -> x.buffers(0, 0));
        due("build", 4, x::build);
        due("the last buffer is empty", 0, () -> x.inside(1, 2));
        due("no buffer more", ARGUMENT, () -> x.inside(1, 3));
        due("when built", STATE, () -> x.buffers(0, 0));
        due("wrong when built", STATE, () -> x.buffers(9, 9));
        x.clear();
        x.block(0, 0);
        x.channel(0, 0, 0);
        x.channel(0, 0, 0);
        due("a new channel has none", 0, () -> x.buffers(1, 1));
    }

    private static void build() {
        promise = "7 build";
        ElasticNets x = new ElasticNets();
        due("of an empty design", 0, x::build);
        due("twice", STATE, x::build);
        x.clear();
        x.block(0, 0);
        for (int i = 0; i < 20; i++) {
            x.channel(0, 0, 0);
            x.buffers(i, 3);
        }
        due("of the most buffers", 80, x::build);
        due("ticks", 0, x::ticks);
        due("twice", STATE, x::build);
    }

    private static void clear() {
        promise = "8 clear";
        ElasticNets x = ring(2);
        x.clear();
        x.block(0, 1);
        x.block(0, 1);
        x.block(0, 1);
        x.channel(0, 1, 1);
        x.input(0);
        x.output(2);
        due("of a design that is not built", 3, x::clear);
        due("again", 0, x::clear);
        due("block after", 0, () -> x.block(0, 6));
        due("input after", 0, () -> x.input(0));
        due("output after", 0, () -> x.output(0));
        due("channel after", 0, () -> x.channel(0, 0, 3));
        due("build after", 1, x::build);
        x.offer(0, 10);
        due("the old inputs and branches are gone", 17, () -> x.tick(0));
        due("value", 19L, () -> x.value(0, 0));
        due("of a design that is built", 1, x::clear);
        due("not built any more", STATE, x::ticks);
        due("value", STATE, () -> x.value(0, 0));
        due("build", 0, x::build);
        due("ticks", 0, x::ticks);
    }

    private static void restart() {
        promise = "9 restart";
        ElasticNets x = new ElasticNets();
        due("not built", STATE, () -> restartOf(x));
        x.block(0, 0);
        x.input(0);
        x.channel(0, 0, 5);
        x.output(0);
        x.output(0);
        x.buffers(0, 1);
        x.build();
        x.offer(0, 1);
        x.run(2, 2);
        x.run(1, 0);
        x.offer(0, 2);
        x.run(2, 1);
        due("got before", 5, () -> x.got(0));
        due("byClock before", 6, () -> x.byClock(0, 0));
        due("restart", "done", () -> restartOf(x));
        due("ticks", 0, x::ticks);
        due("turns", 0, () -> x.turns(0));
        due("got", 0, () -> x.got(0));
        due("inside 0", 1, () -> x.inside(0, 0));
        due("inside 1", 0, () -> x.inside(0, 1));
        due("taken", 0, () -> x.taken(0));
        due("given", 0, () -> x.given(0));
        due("value", INDEX, () -> x.value(0, 0));
        due("byClock", INDEX, () -> x.byClock(0, 0));
        due("nothing waits", true, () -> x.offer(0, 30));
        x.run(3, 0);
        due("the register has its first value", (1L << 32) + 35, () -> x.value(0, 0));
        due("byClock goes by the new values", 35, () -> x.byClock(0, 0));
    }

    private static void offer() {
        promise = "10 offer";
        ElasticNets x = new ElasticNets();
        due("not built", STATE, () -> x.offer(0, 0));
        x.block(0, 0);
        x.input(0);
        x.input(0);
        x.output(0);
        x.build();
        due("port -1", ARGUMENT, () -> x.offer(-1, 0));
        due("port 2", ARGUMENT, () -> x.offer(2, 0));
        due("first", true, () -> x.offer(0, 1));
        due("another waits", false, () -> x.offer(0, 2));
        due("tick without the other port's value", 0, () -> x.tick(0));
        due("it waits still", false, () -> x.offer(0, 3));
        due("other port", true, () -> x.offer(1, 10));
        due("both are taken", 49, () -> x.tick(0));
        due("the first one's value stayed", (1L << 32) + 11, () -> x.value(0, 0));
        due("again", true, () -> x.offer(0, 4));

        ElasticNets often = new ElasticNets();
        often.block(0, 0);
        often.input(0);
        often.build();
        for (int i = 0; i < 250; i++) {
            often.offer(0, i);
            often.tick(0);
        }
        due("taken", 250, () -> often.taken(0));
        due("far from 1000", true, () -> often.offer(0, 0));
    }

    private static void tick() {
        promise = "11 tick";
        ElasticNets x = new ElasticNets();
        due("not built", STATE, () -> x.tick(0));
        x.block(0, 5);
        x.block(0, 0);
        x.input(1);
        x.output(1);
        x.output(0);
        x.build();
        due("all are stalled", 0, () -> x.tick(-1));
        due("a bit above the ports", 2, () -> x.tick(4));
        x.offer(0, 1);
        due("input taken", 19, () -> x.tick(0));
        x.offer(0, 1);
        due("input not taken", 2, () -> x.tick(1));
        due("port 1 stalled", 17, () -> x.tick(2));
        x.run(995, 3);
        due("1000 ticks", 1000, x::ticks);
        due("tick 1001", -1, () -> x.tick(0));
        due("ticks", 1000, x::ticks);
        due("given", 3, () -> x.given(1));

        ElasticNets ports = new ElasticNets();
        for (int i = 0; i < 4; i++) {
            ports.block(0, i);
            ports.input(i);
            ports.output(i);
        }
        ports.build();
        ports.offer(3, 1);
        ports.offer(1, 1);
        due("ports 1 and 3 of each kind", 16 * 10 + 10, () -> ports.tick(0));
    }

    /** A branch that got keeps this until all have got; the channel's first buffer has to have room. */
    private static void tickForks() {
        promise = "11 tick, forks";
        ElasticNets x = new ElasticNets();
        x.block(0, 0);
        x.block(0, 0);
        x.input(0);
        x.channel(0, 1, 100);
        x.output(0);
        x.output(1);
        x.build();
        x.offer(0, 1);
        due("channel gets, port 0 is stalled", 2, () -> x.tick(1));
        due("got", 1, () -> x.got(0));
        due("the value waits still", false, () -> x.offer(0, 2));
        due("channel does not get again", 2, () -> x.tick(1));
        due("the channel is empty", 0, () -> x.inside(0, 0));
        due("port 0 gets", 17, () -> x.tick(0));
        due("got none", 0, () -> x.got(0));
        due("turns", 1, () -> x.turns(0));
        due("value", (2L << 32) + 1, () -> x.value(0, 0));
        x.offer(0, 2);
        x.tick(2);
        x.offer(0, 3);
        x.tick(2);
        x.offer(0, 4);
        due("the channel is full, the port gets", 1, () -> x.tick(2));
        due("got the port", 2, () -> x.got(0));
        due("room is there only after the tick", 2, () -> x.tick(0));
        due("channel gets", 16 + 2, () -> x.tick(0));
        due("tokens come in order", (6L << 32) + 2, () -> x.value(1, 2));
        due("tokens come in order", (7L << 32) + 3, () -> x.value(1, 3));
        due("last token", 2, () -> x.tick(0));
        due("last token", (8L << 32) + 4, () -> x.value(1, 4));
    }

    /** What happens in a tick hangs on what there is at its beginning, whatever the numbers are. */
    private static void tickOrder() {
        promise = "11 tick, order";
        for (int first = 0; first < 2; first++) {
            int a = first;
            int b = 1 - first;
            ElasticNets x = new ElasticNets();
            x.block(0, 0);
            x.block(0, 0);
            x.channel(a, b, 1);
            x.output(b);
            x.buffers(0, 3);
            x.build();
            due("a token goes one buffer on", 0, () -> x.tick(0));
            due("buffer 0", 1, () -> x.inside(0, 0));
            due("buffer 1", 1, () -> x.inside(0, 1));
            due("buffer 2", 0, () -> x.inside(0, 2));
            x.run(2, 0);
            due("it comes to the last", 1, () -> x.inside(0, 3));
            due("out", 1, () -> x.tick(0));
            x.run(9, 1);
            for (int buffer = 0; buffer < 4; buffer++) {
                int number = buffer;
                due("full", 2, () -> x.inside(0, number));
            }
            due("turns of the first", 8, () -> x.turns(a));
            x.tick(0);
            due("only the last has room then", 1, () -> x.inside(0, 3));
            due("full", 2, () -> x.inside(0, 2));
            x.tick(1);
            due("it is full again", 2, () -> x.inside(0, 3));
            due("room goes back", 1, () -> x.inside(0, 2));
            due("the first block waits still", 8, () -> x.turns(a));
        }
    }

    private static void run() {
        promise = "12 run";
        ElasticNets x = new ElasticNets();
        due("not built", STATE, () -> x.run(0, 0));
        due("not built and wrong", STATE, () -> x.run(-1, 0));
        x.block(0, 0);
        x.output(0);
        x.output(0);
        x.build();
        due("n -1", ARGUMENT, () -> x.run(-1, 0));
        due("n 1001", ARGUMENT, () -> x.run(1001, 0));
        due("n 0", 0, () -> x.run(0, 0));
        due("n 3", 3, () -> x.run(3, 2));
        due("port 0 got one", 1, () -> x.given(0));
        due("port 1 was stalled in all", 0, () -> x.given(1));
        due("n 1000", 997, () -> x.run(1000, 0));
        due("n 1000 at the end", 0, () -> x.run(1000, 0));
        due("n 1001 at the end", ARGUMENT, () -> x.run(1001, 0));
        due("given", 997, () -> x.given(1));
        x.restart();
        due("all at once", 1000, () -> x.run(1000, 0));
        due("given", 1000, () -> x.given(1));
    }

    private static void ticks() {
        promise = "13 ticks";
        ElasticNets x = ring(1);
        due("not built", STATE, x::ticks);
        x.build();
        due("before tick 0", 0, x::ticks);
        x.tick(0);
        due("one", 1, x::ticks);
        x.run(998, 0);
        due("999", 999, x::ticks);
        x.tick(0);
        x.tick(0);
        due("1000", 1000, x::ticks);
    }

    private static void turns() {
        promise = "14 turns";
        ElasticNets x = new ElasticNets();
        due("not built", STATE, () -> x.turns(0));
        x.block(0, 0);
        x.block(0, 0);
        x.block(0, 0);
        x.input(1);
        x.channel(1, 2, 0);
        x.channel(2, 2, 0);
        x.build();
        due("block -1", ARGUMENT, () -> x.turns(-1));
        due("block 3", ARGUMENT, () -> x.turns(3));
        x.offer(0, 0);
        x.run(5, 0);
        due("a block alone goes each tick", 5, () -> x.turns(0));
        due("as often as a value came", 1, () -> x.turns(1));
        due("and once for the register", 2, () -> x.turns(2));
        x.clear();
        x.build();
        due("block 0 is gone", ARGUMENT, () -> x.turns(0));
    }

    private static void got() {
        promise = "15 got";
        ElasticNets x = new ElasticNets();
        due("not built", STATE, () -> x.got(0));
        x.block(0, 0);
        x.block(0, 0);
        x.output(0);
        x.channel(0, 1, 0);
        x.input(0);
        x.output(0);
        x.channel(0, 0, 0);
        x.output(0);
        x.build();
        due("block -1", ARGUMENT, () -> x.got(-1));
        due("block 2", ARGUMENT, () -> x.got(2));
        due("at first", 0, () -> x.got(0));
        x.tick(0);
        due("not ready", 0, () -> x.got(0));
        x.offer(0, 0);
        x.tick(5);
        due("port 1 and both channels", 2 + 4 + 8, () -> x.got(0));
        x.tick(1);
        due("port 2 too", 2 + 4 + 8 + 16, () -> x.got(0));
        x.tick(0);
        due("turn ended", 0, () -> x.got(0));

        ElasticNets many = new ElasticNets();
        many.block(0, 0);
        for (int i = 0; i < 20; i++) {
            many.channel(0, 0, 0);
        }
        for (int i = 0; i < 4; i++) {
            many.output(0);
        }
        many.build();
        many.tick(7);
        due("24 branches", (1 << 20) - 1 + (1 << 23), () -> many.got(0));
        due("the others get", 7, () -> many.tick(0));
        due("turn ended", 0, () -> many.got(0));
        due("turns", 1, () -> many.turns(0));
    }

    private static void inside() {
        promise = "16 inside";
        ElasticNets x = new ElasticNets();
        due("not built", STATE, () -> x.inside(0, 0));
        x.block(0, 0);
        x.block(0, 0);
        x.channel(0, 1, 0);
        x.channel(0, 1, 0);
        x.buffers(1, 1);
        x.output(1);
        x.build();
        due("channel -1", ARGUMENT, () -> x.inside(-1, 0));
        due("channel 2", ARGUMENT, () -> x.inside(2, 0));
        due("buffer -1", ARGUMENT, () -> x.inside(0, -1));
        due("buffer 1 of one", ARGUMENT, () -> x.inside(0, 1));
        due("buffer 2 of two", ARGUMENT, () -> x.inside(1, 2));
        due("register's", 1, () -> x.inside(1, 0));
        due("behind it", 0, () -> x.inside(1, 1));
        x.tick(1);
        due("two", 2, () -> x.inside(0, 0));
        due("one gone on, one come", 1, () -> x.inside(1, 0));
        due("one come", 1, () -> x.inside(1, 1));
        x.tick(0);
        due("gone", 1, () -> x.inside(0, 0));
        due("the fork waits", 2, () -> x.got(0));
    }

    private static void taken() {
        promise = "17 taken";
        ElasticNets x = new ElasticNets();
        due("not built", STATE, () -> x.taken(0));
        x.block(0, 0);
        x.block(0, 0);
        x.input(0);
        x.input(1);
        x.output(1);
        x.build();
        due("port -1", ARGUMENT, () -> x.taken(-1));
        due("port 2", ARGUMENT, () -> x.taken(2));
        x.offer(0, 0);
        due("offered is not taken", 0, () -> x.taken(0));
        x.tick(0);
        due("taken", 1, () -> x.taken(0));
        x.offer(1, 0);
        x.tick(1);
        due("stalled", 0, () -> x.taken(1));
        x.tick(0);
        due("taken", 1, () -> x.taken(1));
        due("of the other", 1, () -> x.taken(0));
    }

    private static void given() {
        promise = "18 given";
        ElasticNets x = new ElasticNets();
        due("not built", STATE, () -> x.given(0));
        x.block(0, 0);
        x.output(0);
        x.output(0);
        x.build();
        due("port -1", ARGUMENT, () -> x.given(-1));
        due("port 2", ARGUMENT, () -> x.given(2));
        due("at first", 0, () -> x.given(0));
        x.tick(1);
        due("stalled", 0, () -> x.given(0));
        due("got", 1, () -> x.given(1));
        x.tick(0);
        due("got", 1, () -> x.given(0));
        due("got before", 1, () -> x.given(1));
    }

    private static void value() {
        promise = "19 value";
        ElasticNets x = new ElasticNets();
        due("not built", STATE, () -> x.value(0, 0));
        x.block(0, -1);
        x.block(0, Integer.MIN_VALUE);
        x.output(0);
        x.output(1);
        x.build();
        due("port -1", ARGUMENT, () -> x.value(-1, 0));
        due("port 2", ARGUMENT, () -> x.value(2, 0));
        due("port 2 and k -1", ARGUMENT, () -> x.value(2, -1));
        due("none yet", INDEX, () -> x.value(0, 0));
        x.tick(2);
        due("negative", 0xFFFFFFFFL, () -> x.value(0, 0));
        due("k -1", INDEX, () -> x.value(0, -1));
        due("k 1", INDEX, () -> x.value(0, 1));
        due("stalled", INDEX, () -> x.value(1, 0));
        x.tick(0);
        due("tick 1", 0x1FFFFFFFFL, () -> x.value(0, 1));
        due("first in tick 1", 0x180000000L, () -> x.value(1, 0));
        x.run(998, 0);
        due("tick 999", (999L << 32) + 0xFFFFFFFFL, () -> x.value(0, 999));
        due("k 1000", INDEX, () -> x.value(0, 1000));
        due("k greatest", INDEX, () -> x.value(0, Integer.MAX_VALUE));
    }

    private static void byClock() {
        promise = "20 byClock";
        ElasticNets x = new ElasticNets();
        due("not built", STATE, () -> x.byClock(0, 0));
        x.block(0, 1);
        x.block(0, 0);
        x.channel(0, 0, 5);
        x.channel(0, 1, 50);
        x.output(1);
        x.output(0);
        x.build();
        due("port -1", ARGUMENT, () -> x.byClock(-1, 0));
        due("port 2", ARGUMENT, () -> x.byClock(2, 0));
        due("port 2 and k -1", ARGUMENT, () -> x.byClock(2, -1));
        due("k -1", INDEX, () -> x.byClock(0, -1));
        due("k 1000", INDEX, () -> x.byClock(0, 1000));
        due("k 999 without a tick", 1004, () -> x.byClock(0, 999));
        due("k 999 of the other", 1005, () -> x.byClock(1, 999));
        due("k 0 of a register", 50, () -> x.byClock(0, 0));
        due("k 1", 6, () -> x.byClock(0, 1));
        due("k 0 without a register", 6, () -> x.byClock(1, 0));
        x.run(10, 0);
        due("ticks change nothing", 7, () -> x.byClock(0, 2));
        x.restart();
        due("nor does restart", 8, () -> x.byClock(0, 3));
    }

    private static void byClockInputs() {
        promise = "20 byClock, inputs";
        ElasticNets x = new ElasticNets();
        x.block(4, 0);
        x.block(0, 0);
        x.input(0);
        x.channel(0, 0, 1);
        x.output(0);
        x.input(1);
        x.build();
        x.offer(0, 7);
        due("offered is not taken", INDEX, () -> x.byClock(0, 0));
        x.tick(0);
        due("another port has taken none", INDEX, () -> x.byClock(0, 0));
        x.offer(1, 0);
        x.tick(0);
        due("all have taken", 7 * 31 + 1, () -> x.byClock(0, 0));
        due("none for cycle 1", INDEX, () -> x.byClock(0, 1));
        x.offer(0, 9);
        x.offer(1, 0);
        x.tick(1);
        due("waits, as the output is stalled", INDEX, () -> x.byClock(0, 1));
        x.tick(0);
        due("cycle 1 goes on from cycle 0", 9 * 31 + 218, () -> x.byClock(0, 1));
        due("as the patient machine gave", (3L << 32) + 497, () -> x.value(0, 1));
        due("cycle 0 again", 218, () -> x.byClock(0, 0));
    }

    private static void operations() {
        promise = "terms, operations";
        int[][] table = {
            {0, 5, -7, -2}, {0, Integer.MAX_VALUE, 1, Integer.MIN_VALUE},
            {1, 12, 10, 6}, {1, -1, 1, -2},
            {2, 6, -7, -42}, {2, 65536, 65536, 0}, {2, 100000, 100000, 1410065408},
            {3, -5, -7, -5}, {3, -7, -5, -5}, {3, -1, Integer.MAX_VALUE, Integer.MAX_VALUE},
            {4, 2, 3, 65}, {4, 1 << 30, -1, -1073741825},
        };
        for (int[] row : table) {
            ElasticNets x = new ElasticNets();
            x.block(row[0], row[1]);
            x.input(0);
            x.output(0);
            x.build();
            x.offer(0, row[2]);
            x.tick(0);
            String what = "operation " + row[0] + " of " + row[1] + " and " + row[2];
            due(what, row[3], () -> (int) x.value(0, 0));
            due(what + " by the clock", row[3], () -> x.byClock(0, 0));
        }
    }

    /** Channels and input ports are inputs in the order in which they were added. */
    private static void orderOfInputs() {
        promise = "terms, order of inputs";
        ElasticNets x = new ElasticNets();
        x.block(4, 1);
        x.channel(0, 0, 2);
        x.input(0);
        x.channel(0, 0, 4);
        x.input(0);
        x.output(0);
        x.build();
        x.offer(1, 5);
        x.offer(0, 3);
        x.tick(0);
        int want = (((31 + 2) * 31 + 3) * 31 + 4) * 31 + 5;
        due("patient", want, () -> (int) x.value(0, 0));
        due("by the clock", want, () -> x.byClock(0, 0));
    }

    private static void rate() {
        promise = "21 rate";
        ElasticNets x = new ElasticNets();
        due("not built", STATE, () -> x.rate(0));
        due("not built and wrong", STATE, () -> x.rate(2));
        x.build();
        due("what -1", ARGUMENT, () -> x.rate(-1));
        due("what 2", ARGUMENT, () -> x.rate(2));
        dueRate("no block", x, 1, 1);
        x.clear();
        x.block(0, 0);
        x.build();
        dueRate("a block alone", x, 1, 1);
        for (int behind = 0; behind < 4; behind++) {
            ElasticNets loop = new ElasticNets();
            loop.block(0, 0);
            loop.channel(0, 0, 0);
            loop.buffers(0, behind);
            loop.build();
            dueRate("a loop with buffers behind: " + behind, loop, 1, behind + 1);
        }
        ElasticNets ring = ring(4);
        ring.buffers(0, 3);
        ring.buffers(2, 3);
        ring.build();
        dueRate("in lowest terms, 4 of 10", ring, 2, 5);
        ring.run(100, 0);
        dueRate("after ticks", ring, 2, 5);
        ring.clear();
        ring.block(0, 0);
        ring.channel(0, 0, 0);
        ring.buffers(0, 1);
        ring.build();
        dueRate("after clear", ring, 1, 2);
        ElasticNets longest = ring(10);
        for (int i = 0; i < 10; i++) {
            longest.buffers(i, 3);
        }
        longest.build();
        dueRate("10 of 40", longest, 1, 4);
    }

    /** Without a ring of channels, ways of other lengths between two blocks hold one another up. */
    private static void rateOfBackPressure() {
        promise = "21 rate, back pressure";
        ElasticNets x = new ElasticNets();
        x.block(0, 0);
        x.block(0, 0);
        x.channel(0, 1, 0);
        x.channel(0, 1, 0);
        x.buffers(1, 3);
        x.build();
        dueRate("1 there, 1 back, 1 for the turn: 3 of 4 + 1 + 1", x, 1, 2);
        x.run(1000, 0);
        due("turns", 499, () -> x.turns(1));

        ElasticNets chain = new ElasticNets();
        for (int i = 0; i < 6; i++) {
            chain.block(0, 0);
        }
        for (int i = 0; i < 5; i++) {
            chain.channel(i, i + 1, 0);
            chain.buffers(i, 2);
        }
        chain.channel(0, 5, 0);
        chain.build();
        dueRate("5 there, 1 back, 1 for the turn: 7 of 15 + 1 + 1", chain, 7, 17);
    }

    private static void refusedCallsChangeNothing() {
        promise = "a call that throws or answers NONE changes nothing";
        ElasticNets x = ring(10);
        for (int i = 10; i < 20; i++) {
            x.channel(0, 0, 0);
        }
        told(() -> x.block(9, 0));
        told(() -> x.channel(0, 10, 0));
        told(() -> x.channel(1, 1, 0));
        told(() -> x.buffers(0, 4));
        told(() -> x.input(10));
        told(() -> x.output(-1));
        x.block(0, 0);
        due("input", 0, () -> x.input(9));
        due("output", 0, () -> x.output(9));
        due("build", 20, x::build);
        x.offer(0, 1);
        told(() -> x.offer(0, 2));
        told(() -> x.run(1001, 0));
        told(() -> x.block(0, 0));
        told(() -> x.buffers(0, 2));
        told(x::build);
        due("ticks", 0, x::ticks);
        due("tick", 17, () -> x.tick(0));
        due("clear", 10, x::clear);
    }

    private static void dueRate(String what, ElasticNets x, int tokens, int length) {
        due(what + ", tokens", tokens, () -> x.rate(0));
        due(what + ", length", length, () -> x.rate(1));
    }

    /** So many blocks in a ring, not built. */
    private static ElasticNets ring(int blocks) {
        ElasticNets x = new ElasticNets();
        for (int i = 0; i < blocks; i++) {
            x.block(0, 0);
        }
        for (int i = 0; i < blocks; i++) {
            x.channel(i, (i + 1) % blocks, 0);
        }
        return x;
    }
}
