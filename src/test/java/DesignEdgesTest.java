/** Promises 1 to 8: each sentence about an edge or a wrong call, with runs of its own. */
public final class DesignEdgesTest extends Runs {
    /** Calls that need a machine, right ones for a design with one of everything. */
    private static final String[] NEED_A_MACHINE = {"restart", "offer 0 0", "tick 0", "run 0 0", "run 1 0", "ticks",
        "turns 0", "got 0", "inside 0 0", "taken 0", "given 0", "value 0 0", "byClock 0 0", "rate 0", "rate 1"};

    private static final String ONE_OF_EVERYTHING = "block 0 0; channel 0 0 5; input 0; output 0;";

    public static void main(String[] args) {
        newIsEmpty();
        newIsNotBuilt();
        newIsAlone();
        blockNumbers();
        blockNone();
        blockBuilt();
        blockOperation();
        channelNumbers();
        channelNone();
        channelBuilt();
        channelNoBlock();
        inputNumbers();
        inputNone();
        inputBuilt();
        inputNoBlock();
        outputNumbers();
        outputNone();
        outputBuilt();
        outputNoBlock();
        buffersStand();
        buffersAnswer();
        buffersBuilt();
        buffersNoChannel();
        buffersN();
        buildStandsAtTheStart();
        buildAnswer();
        buildBuilt();
        clearEmpties();
        clearIsNotBuilt();
        clearAnswer();
        finish();
    }

    private static void newIsEmpty() {
        sentence("`ElasticNets()`: An empty design");
        run("clear = 0");
        run("block 0 0 = 0; input 0 = 0; output 0 = 0; channel 0 0 0 = 0");
        run("channel 0 0 0 = argument; input 0 = argument; output 0 = argument; buffers 0 0 = argument");
        run("build = 0; turns 0 = argument; got 0 = argument; inside 0 0 = argument; taken 0 = argument",
            "given 0 = argument; value 0 0 = argument; byClock 0 0 = argument; offer 0 0 = argument",
            "tick 0 = 0; tick -1 = 0; ticks = 2; run 1000 0 = 998; tick 0 = NONE; clear = 0");
    }

    private static void newIsNotBuilt() {
        sentence("which is not built");
        for (String call : NEED_A_MACHINE) {
            run(call + " = state");
        }
        run("block 0 0 = 0; build = 0");
    }

    private static void newIsAlone() {
        sentence("`ElasticNets()`: An empty design, which is not built.");
        ElasticNets x = run(ONE_OF_EVERYTHING, "build = 1; offer 0 3; tick 0 = 17");
        ElasticNets y = run("ticks = state; clear = 0; block 0 9 = 0; output 0 = 0; build = 0");
        go(x, "value 0 0 = 8@0; offer 0 4; tick 0 = 17; value 0 1 = 12@1");
        go(y, "ticks = 0; given 0 = 0; tick 0 = 1; value 0 0 = 9@0; taken 0 = argument");
        go(x, "clear = 1");
        go(y, "ticks = 1; turns 0 = 1");
    }

    private static void blockNumbers() {
        sentence("A block more. Answers its number, from 0 on");
        run("block 0 0 = 0; block 4 MIN = 1; block 3 MAX = 2; build = 0; turns 2 = 0; turns 3 = argument");
        run("block 0 0 = 0; block 9 0 = argument; block 0 0 = 1; clear = 2; block 0 0 = 0; clear = 1");
    }

    private static void blockNone() {
        sentence("A block more. Answers its number, from 0 on; NONE when there are 10.");
        run(often(9, "block 0 0"), "block 0 0 = 9; block 0 0 = NONE; block 4 1 = NONE; clear = 10; block 0 0 = 0");
    }

    private static void blockBuilt() {
        sentence("A block more. .. IllegalStateException: it is built.");
        run("build = 0; block 0 0 = state; clear = 0");
        run("block 0 0; build = 0; tick 0; block 4 0 = state; restart; block 0 0 = state; turns 1 = argument");
        run(often(10, "block 0 0"), "build = 0; block 0 0 = state; clear = 10");
    }

    private static void blockOperation() {
        sentence("IllegalArgumentException: operation is not 0 to 4.");
        run("block -1 0 = argument; block 5 0 = argument; block MIN 0 = argument; block MAX 0 = argument; clear = 0");
        run("block 0 0 = 0; block 1 0 = 1; block 2 0 = 2; block 3 0 = 3; block 4 0 = 4; clear = 5");
    }

    private static void channelNumbers() {
        sentence("A channel more, whose register has a value at first. Answers its number, from 0 on");
        run("block 0 0; block 0 0; channel 0 1 MIN = 0; channel 1 0 MAX = 1; channel 1 1 0 = 2; output 0; output 1",
            "build = 3; inside 2 0 = 1; inside 3 0 = argument; tick 0 = 3; value 0 0 = MAX@0; value 1 0 = MIN@0");
        run("block 0 0; channel 0 0 0 = 0; channel 0 1 0 = argument; channel 0 0 0 = 1; clear = 1",
            "block 0 0; channel 0 0 0 = 0");
    }

    private static void channelNone() {
        sentence("A channel more, whose register has a value at first. Answers its number, from 0 on; NONE when there are 20.");
        run("block 0 0; block 0 0;", often(19, "channel 0 1 0"),
            "channel 1 0 0 = 19; channel 0 1 0 = NONE; channel 1 1 0 = NONE; build = 20");
        run("block 0 0;", often(20, "channel 0 0 0"), "channel 0 0 0 = NONE; clear = 1; block 0 0; channel 0 0 0 = 0");
    }

    private static void channelBuilt() {
        sentence("A channel more, .. IllegalStateException: it is built.");
        run("block 0 0; build = 0; channel 0 0 0 = state; restart; channel 0 0 0 = state; inside 0 0 = argument");
        run("block 0 0;", often(20, "channel 0 0 0"), "build = 20; channel 0 0 0 = state");
    }

    private static void channelNoBlock() {
        sentence("IllegalArgumentException: there is no block from or to.");
        run("channel 0 0 0 = argument; block 0 0; channel 0 0 0 = 0; channel 0 1 0 = argument; channel 1 0 0 = argument",
            "block 0 0; channel 0 1 0 = 1; channel 1 0 0 = 2; channel 2 1 0 = argument; channel 1 2 0 = argument",
            "channel -1 0 0 = argument; channel 0 -1 0 = argument; channel -1 -1 0 = argument; channel 2 2 0 = argument",
            "channel MIN 0 0 = argument; channel 0 MIN 0 = argument; channel MAX 0 0 = argument; channel 0 MAX 0 = argument",
            "build = 3");
        run(often(10, "block 0 0"), "channel 9 9 0 = 0; channel 10 0 0 = argument; channel 0 10 0 = argument");
    }

    private static void inputNumbers() {
        sentence("An input port more. Answers its number, from 0 on");
        run("block 0 0; block 0 0; input 1 = 0; output 0 = 0; input 0 = 1; input 2 = argument; input 1 = 2",
            "build = 0; taken 2 = 0; taken 3 = argument; clear = 2; block 0 0; input 0 = 0");
    }

    private static void inputNone() {
        sentence("An input port more. Answers its number, from 0 on; NONE when there are 4.");
        run("block 0 0; block 0 0; input 0; input 1; input 0; input 1 = 3; input 0 = NONE; input 1 = NONE",
            "build = 0; taken 3 = 0; taken 4 = argument; clear = 2; block 0 0; input 0 = 0");
    }

    private static void inputBuilt() {
        sentence("An input port more. .. IllegalStateException: it is built.");
        run("block 0 0; build = 0; input 0 = state; restart; input 0 = state; taken 0 = argument");
        run("block 0 0;", often(4, "input 0"), "build = 0; input 0 = state");
    }

    private static void inputNoBlock() {
        sentence("IllegalArgumentException: there is no block to.");
        run("input 0 = argument; block 0 0; input 0 = 0; input 1 = argument; input -1 = argument",
            "input MIN = argument; input MAX = argument; block 0 0; input 1 = 1; input 2 = argument");
        run(often(10, "block 0 0"), "input 9 = 0; input 10 = argument");
    }

    private static void outputNumbers() {
        sentence("An output port more. Answers its number, from 0 on");
        run("block 0 0; block 0 0; output 1 = 0; input 0 = 0; output 0 = 1; output 2 = argument; output 1 = 2",
            "build = 0; given 2 = 0; given 3 = argument; clear = 2; block 0 0; output 0 = 0");
    }

    private static void outputNone() {
        sentence("An output port more. Answers its number, from 0 on; NONE when there are 4.");
        run("block 0 0; block 0 0; output 0; output 1; output 0; output 1 = 3; output 0 = NONE; output 1 = NONE",
            "build = 0; given 3 = 0; given 4 = argument; clear = 2; block 0 0; output 0 = 0");
    }

    private static void outputBuilt() {
        sentence("An output port more. .. IllegalStateException: it is built.");
        run("block 0 0; build = 0; output 0 = state; restart; output 0 = state; given 0 = argument");
        run("block 0 0;", often(4, "output 0"), "build = 0; output 0 = state");
    }

    private static void outputNoBlock() {
        sentence("IllegalArgumentException: there is no block from.");
        run("output 0 = argument; block 0 0; output 0 = 0; output 1 = argument; output -1 = argument",
            "output MIN = argument; output MAX = argument; block 0 0; output 1 = 1; output 2 = argument");
        run(often(10, "block 0 0"), "output 9 = 0; output 10 = argument");
    }

    private static void buffersStand() {
        sentence("So many empty buffers stand behind a channel's register.");
        for (int n = 0; n <= 3; n++) {
            run("block 0 0; channel 0 0 0; channel 0 0 0; channel 0 0 0; buffers 1 3; buffers 1 " + n,
                "build = " + (3 + n), "inside 1 0 = 1; inside 1 " + (n + 1) + " = argument",
                "inside 0 1 = argument; inside 2 1 = argument");
        }
        run("block 0 0; channel 0 0 0; buffers 0 3; build = 4; inside 0 1 = 0; inside 0 2 = 0; inside 0 3 = 0");
        run("block 0 0; channel 0 0 0; buffers 0 3; clear; block 0 0; channel 0 0 0; build = 1; inside 0 1 = argument");
    }

    private static void buffersAnswer() {
        sentence("Answers how many it were.");
        run("block 0 0; channel 0 0 0; channel 0 0 0; buffers 0 3 = 0; buffers 0 3 = 3; buffers 0 0 = 3; buffers 0 1 = 0",
            "buffers 0 2 = 1; buffers 1 1 = 0; buffers 0 4 = argument; buffers 0 0 = 2; buffers 1 0 = 1",
            "clear; block 0 0; channel 0 0 0; buffers 0 1 = 0");
        run("block 0 0; channel 0 0 0; buffers 0 3; clear; block 0 0; channel 0 0 0; buffers 0 0 = 0");
    }

    private static void buffersBuilt() {
        sentence("So many empty buffers .. IllegalStateException: it is built.");
        run("block 0 0; channel 0 0 0; buffers 0 1 = 0; build = 2; buffers 0 3 = state; restart; buffers 0 0 = state",
            "inside 0 1 = 0; inside 0 2 = argument");
    }

    private static void buffersNoChannel() {
        sentence("IllegalArgumentException: there is no such channel, or n is not 0 to 3.");
        run("buffers 0 0 = argument; block 0 0; buffers 0 0 = argument; channel 0 0 0; buffers 0 1 = 0",
            "buffers 1 1 = argument; buffers -1 1 = argument; buffers MIN 1 = argument; buffers MAX 1 = argument",
            "channel 0 0 0; buffers 1 1 = 0; buffers 2 1 = argument; build = 4");
        run("block 0 0;", often(20, "channel 0 0 0"), "buffers 19 3 = 0; buffers 20 3 = argument; build = 23");
    }

    private static void buffersN() {
        sentence("n is not 0 to 3");
        run("block 0 0; channel 0 0 0; buffers 0 -1 = argument; buffers 0 4 = argument; buffers 0 MIN = argument",
            "buffers 0 MAX = argument; buffers 0 3 = 0; buffers 0 4 = argument; buffers 0 -1 = argument; buffers 0 0 = 3",
            "build = 1");
    }

    private static void buildStandsAtTheStart() {
        sentence("Builds the patient machine, which stands before tick 0.");
        run(ONE_OF_EVERYTHING, "buffers 0 1; build = 2; ticks = 0; turns 0 = 0; got 0 = 0; inside 0 0 = 1; inside 0 1 = 0",
            "taken 0 = 0; given 0 = 0; value 0 0 = index; byClock 0 0 = index; tick 0 = 0; offer 0 2 = true",
            "tick 0 = 17; value 0 0 = 7@1");
        ElasticNets x = run(ONE_OF_EVERYTHING, "output 0; build = 1; offer 0 1; tick 2 = 1; tick 0 = 18; offer 0 2; tick 1 = 2");
        go(x, "clear = 1;" + ONE_OF_EVERYTHING + "output 0; build = 1; ticks = 0; turns 0 = 0; got 0 = 0; inside 0 0 = 1",
            "taken 0 = 0; given 0 = 0; given 1 = 0; tick 0 = 0; offer 0 7 = true; tick 0 = 19; value 0 0 = 12@1");
    }

    private static void buildAnswer() {
        sentence("Answers how many buffers it has.");
        run("build = 0");
        run("block 0 0; input 0; output 0; build = 0");
        run("block 0 0; channel 0 0 0; build = 1");
        run("block 0 0; channel 0 0 0; channel 0 0 0; buffers 1 2; build = 4");
        run("block 0 0;", often(20, "channel 0 0 0"), "build = 20");
        StringBuilder most = new StringBuilder("block 0 0;").append(often(20, "channel 0 0 0"));
        for (int channel = 0; channel < 20; channel++) {
            most.append("buffers ").append(channel).append(" 3;");
        }
        run(most.toString(), "build = 80; inside 19 3 = 0");
    }

    private static void buildBuilt() {
        sentence("Builds the patient machine, .. IllegalStateException: it is built.");
        run("build = 0; build = state; restart; build = state; clear; build = 0; build = state");
        run(ONE_OF_EVERYTHING, "build = 1; offer 0 1; tick 0 = 17; build = state; ticks = 1; taken 0 = 1");
    }

    private static void clearEmpties() {
        sentence("The design is empty");
        String again = "block 0 6 = 0; input 0 = 0; output 0 = 0; channel 0 0 3 = 0; build = 1; rate 0 = 1; rate 1 = 1;"
            + "offer 0 10; tick 0 = 17; value 0 0 = 19@0; inside 0 0 = 1; inside 0 1 = argument; inside 1 0 = argument;"
            + "turns 1 = argument; taken 1 = argument; given 1 = argument; got 0 = 0; byClock 0 0 = 19";
        String large = often(10, "block 4 9") + often(20, "channel 0 0 8") + often(4, "input 0; output 0")
            + "buffers 0 3; buffers 1 2;";
        run(large, "clear = 10;", again);
        run(large, "build = 25; offer 0 1; run 7 0; rate 1; clear = 10;", again);
        run(large, "clear = 10; channel 0 0 0 = argument; input 0 = argument; output 0 = argument; buffers 0 0 = argument",
            "build = 0; turns 0 = argument; inside 0 0 = argument; taken 0 = argument; given 0 = argument");
        run(large, "clear;", upTo(10, "block 0 0"), upTo(20, "channel 0 0 0"), upTo(4, "input 0"), upTo(4, "output 0"));
    }

    private static void clearIsNotBuilt() {
        sentence("The design is empty, and not built.");
        for (String call : NEED_A_MACHINE) {
            run(ONE_OF_EVERYTHING, "build = 1; offer 0 1; tick 0 = 17; clear = 1;", call + " = state");
        }
        run("build = 0; clear = 0; block 0 0 = 0; build = 0");
    }

    private static void clearAnswer() {
        sentence("Answers how many blocks it had.");
        run("clear = 0; clear = 0; block 0 0; clear = 1; clear = 0; block 0 0; block 9 0 = argument; block 0 0; clear = 2");
        run(often(11, "block 0 0"), "clear = 10; clear = 0");
        run("block 0 0; build = 0; block 0 0 = state; clear = 1; clear = 0");
    }
}
