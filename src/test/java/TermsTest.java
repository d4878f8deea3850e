/** The sentences of the document's "Terms" that name a limit, an edge or an order, each with runs of its own. */
public final class TermsTest extends Runs {
    public static void main(String[] args) {
        upToTenBlocks();
        upToTwentyChannels();
        channelToTheSameBlock();
        registerHasAValueAtFirst();
        upToFourInputPorts();
        upToFourOutputPorts();
        inputsInOrder();
        branchesInOrder();
        beginningWithC();
        operationSum();
        operationExclusiveOr();
        operationProduct();
        operationGreater();
        operationMix();
        wraps();
        byTheClockValues();
        byTheClockWhen();
        firstTokens();
        emptyBuffers();
        roomForTwo();
        orderOfTokens();
        valueWaits();
        beginningOfTheTick();
        goesOn();
        readyByChannels();
        readyByInputPorts();
        readyWithoutInputs();
        branchNotGotYet();
        channelGets();
        outputPortGets();
        turnEnds();
        turnEndsWithoutBranches();
        turnGoesOn();
        rateIsTheLeast();
        rateOfABlock();
        rateForwards();
        rateBackwards();
        rateOfTheLargest();
        finish();
    }

    private static void upToTenBlocks() {
        sentence("A DESIGN has up to 10 BLOCKS");
        run(upTo(10, "block 0 7"), "output 9; build = 0; tick 0 = 1; value 0 0 = 7@0",
            "turns 0 = 1; turns 9 = 1; turns 10 = argument; clear = 10");
    }

    private static void upToTwentyChannels() {
        sentence("up to 20 CHANNELS from a block to a block");
        run("block 0 0; block 0 0;", upTo(20, "channel 0 1 1"), "output 1; build = 20; inside 20 0 = argument",
            "tick 0 = 1; value 0 0 = 20@0; inside 0 0 = 1; inside 19 0 = 1; turns 0 = 1");
    }

    private static void channelToTheSameBlock() {
        sentence("(perhaps the same one)");
        run("block 0 1; channel 0 0 5 = 0; output 0; build = 1",
            "tick 0 = 1; value 0 0 = 6@0; inside 0 0 = 1; tick 0 = 1; value 0 1 = 7@1; byClock 0 2 = 8");
        run("block 0 0; channel 0 0 1 = 0; channel 0 0 2 = 1; output 0; build = 2",
            "run 3 0 = 3; value 0 0 = 3@0; value 0 1 = 6@1; value 0 2 = 12@2; byClock 0 3 = 24");
    }

    private static void registerHasAValueAtFirst() {
        sentence("each with a REGISTER that has a value at first");
        for (String value : new String[] {"MIN", "-1", "0", "1", "MAX"}) {
            run("block 0 0; block 0 0; channel 0 1 " + value + "; output 1; build = 1",
                "byClock 0 0 = " + value, "tick 0 = 1; value 0 0 = " + value + "@0");
        }
    }

    private static void upToFourInputPorts() {
        sentence("up to 4 INPUT PORTS, each into a block");
        run("block 0 0;", upTo(4, "input 0"), "output 0; build = 0",
            "offer 0 1; offer 1 10; offer 2 100; tick 0 = 0; offer 3 1000; tick 0 = 241; value 0 0 = 1111@1");
        run(often(4, "block 0 0"), "input 3 = 0; input 1 = 1; input 2 = 2; input 0 = 3; input 3 = NONE",
            "output 0; output 1; output 2; output 3; build = 0; offer 0 7; tick 0 = 24; offer 3 8; tick 0 = 129",
            "value 3 0 = 7@0; value 0 0 = 8@1; taken 4 = argument");
    }

    private static void upToFourOutputPorts() {
        sentence("up to 4 OUTPUT PORTS, each out of a block");
        run("block 0 7;", upTo(4, "output 0"), "build = 0; tick 0 = 15; value 3 0 = 7@0; given 4 = argument");
        run("block 0 10; block 0 11; block 0 12; block 0 13",
            "output 3 = 0; output 1 = 1; output 2 = 2; output 0 = 3; output 3 = NONE; build = 0; tick 0 = 15",
            "value 0 0 = 13@0; value 1 0 = 11@0; value 2 0 = 12@0; value 3 0 = 10@0");
    }

    private static void inputsInOrder() {
        sentence("The INPUTS of a block are the channels and input ports into it, in the order in which they were added");
        String offers = "offer 1 5; offer 0 3; tick 0 = 49;";
        int portsLast = (((31 + 2) * 31 + 4) * 31 + 3) * 31 + 5;
        run("block 4 1; channel 0 0 2; channel 0 0 4; input 0; input 0; output 0; build = 2", offers,
            "value 0 0 = " + portsLast + "@0; byClock 0 0 = " + portsLast);
        int portsFirst = (((31 + 3) * 31 + 5) * 31 + 2) * 31 + 4;
        run("block 4 1; input 0; input 0; channel 0 0 2; channel 0 0 4; output 0; build = 2", offers,
            "value 0 0 = " + portsFirst + "@0; byClock 0 0 = " + portsFirst);
        int mixed = (((31 + 3) * 31 + 2) * 31 + 5) * 31 + 4;
        run("block 0 0; block 4 1; input 1; channel 1 1 2; channel 0 0 9; input 1; channel 1 1 4; output 1",
            "build = 3", offers, "value 0 0 = " + mixed + "@0; byClock 0 0 = " + mixed);
        allInputsInOrder();
    }

    /** The most inputs that a block can have. */
    private static void allInputsInOrder() {
        StringBuilder calls = new StringBuilder("block 4 0; input 0; input 0;");
        int want = 1 * 31 + 2;
        for (int i = 0; i < 20; i++) {
            calls.append("channel 0 0 ").append(10 + i).append(";");
            want = want * 31 + 10 + i;
        }
        want = (want * 31 + 3) * 31 + 4;
        run(calls.toString(), "input 0; input 0; output 0; build = 20",
            "offer 0 1; offer 1 2; offer 2 3; offer 3 4; tick 0 = 241",
            "value 0 0 = " + want + "@0; byClock 0 0 = " + want);
    }

    private static void branchesInOrder() {
        sentence("its BRANCHES are the channels and output ports out of it, likewise");
        String design = "block 0 0; block 0 0; output 0; channel 0 1 0; output 0; channel 0 1 0; output 0; build = 2;";
        run(design, "tick 1 = 6; got 0 = 30");
        run(design, "tick 2 = 5; got 0 = 27");
        run(design, "tick 4 = 3; got 0 = 15");
        run("block 0 0; block 0 0; channel 0 1 0; output 0; channel 0 1 0; output 0; build = 2; tick 3 = 0; got 0 = 5");
        int allButTheFirstAndLast = (1 << 23) - 2;
        run("block 0 0; output 0;", often(20, "channel 0 0 0"), often(3, "output 0"),
            "build = 20; tick 9 = 6; got 0 = " + allButTheFirstAndLast, "tick 0 = 9; got 0 = 0; turns 0 = 1");
    }

    private static void beginningWithC() {
        sentence("beginning with C");
        for (int operation = 0; operation < 5; operation++) {
            for (String c : new String[] {"MIN", "-1", "0", "7", "MAX"}) {
                run("block " + operation + " " + c + "; output 0; build = 0",
                    "tick 0 = 1; value 0 0 = " + c + "@0; byClock 0 999 = " + c);
            }
        }
    }

    /** What a block makes of C and of two inputs, in the patient machine and by the clock. */
    private static void makes(int operation, String c, String x, String y, String want) {
        run("block " + operation + " " + c + "; input 0; input 0; output 0; build = 0",
            "offer 0 " + x + "; offer 1 " + y + "; tick 0 = 49",
            "value 0 0 = " + want + "@0; byClock 0 0 = " + want);
    }

    private static void operationSum() {
        sentence("0: v and x together");
        makes(0, "5", "-7", "3", "1");
        makes(0, "0", "0", "0", "0");
        makes(0, "MIN", "MAX", "0", "-1");
    }

    private static void operationExclusiveOr() {
        sentence("1: v exclusive or x");
        makes(1, "12", "10", "1", "7");
        makes(1, "-1", "-1", "0", "0");
        makes(1, "MIN", "-1", "0", "MAX");
        makes(1, "MIN", "MAX", "1", "-2");
    }

    private static void operationProduct() {
        sentence("2: v times x");
        makes(2, "6", "-7", "2", "-84");
        makes(2, "0", "MAX", "MIN", "0");
        makes(2, "1", "1", "MIN", "MIN");
    }

    private static void operationGreater() {
        sentence("3: the greater one");
        makes(3, "-5", "-7", "-6", "-5");
        makes(3, "-7", "-5", "-6", "-5");
        makes(3, "-7", "-6", "-5", "-5");
        makes(3, "4", "4", "4", "4");
        makes(3, "-1", "0", "-1", "0");
        makes(3, "MIN", "MAX", "MIN", "MAX");
        makes(3, "MAX", "MIN", "-2", "MAX");
        makes(3, "MIN", "MIN", "MIN", "MIN");
    }

    private static void operationMix() {
        sentence("4: 31 times v, and x, together");
        makes(4, "2", "3", "5", "2020");
        makes(4, "0", "0", "-9", "-9");
        makes(4, "-1", "0", "0", "-961");
    }

    private static void wraps() {
        sentence("All wraps to 32 bits.");
        makes(0, "MAX", "1", "0", "MIN");
        makes(0, "MIN", "-1", "0", "MAX");
        makes(0, "MAX", "MAX", "MAX", "2147483645");
        makes(2, "MIN", "-1", "1", "MIN");
        makes(2, "MAX", "2", "1", "-2");
        makes(2, "65536", "65536", "1", "0");
        makes(2, "100000", "100000", "1", "1410065408");
        makes(4, "MAX", "0", "0", "2147482687");
        makes(4, "MIN", "-1", "0", "2147483617");
        makes(4, "0", "1073741824", "-1", "-1073741825");
        run("block 2 2; channel 0 0 1; output 0; build = 1; run 1000 0 = 1000",
            "value 0 29 = 1073741824@29; value 0 30 = MIN@30; value 0 31 = 0@31; value 0 999 = 0@999",
            "byClock 0 29 = 1073741824; byClock 0 30 = MIN; byClock 0 31 = 0; byClock 0 999 = 0");
    }

    private static void byTheClockValues() {
        sentence("each block makes a value of what the registers of its channels have and of the value of each "
            + "input port in this cycle, the same for all its branches");
        run("block 0 100; block 0 0; block 0 0; input 0; input 0; channel 0 0 1; channel 0 1 -5; channel 0 2 -6",
            "output 0; output 0; output 1; output 2; build = 3",
            "offer 0 10; offer 1 20; tick 0 = 63; offer 0 30; offer 1 40; tick 0 = 63",
            "byClock 0 0 = 131; byClock 1 0 = 131; byClock 2 0 = -5; byClock 3 0 = -6",
            "byClock 0 1 = 301; byClock 1 1 = 301; byClock 2 1 = 131; byClock 3 1 = 131");
    }

    private static void byTheClockWhen() {
        sentence("output ports give it in this cycle, registers have it in the next one");
        for (int first = 0; first < 2; first++) {
            int a = first;
            int b = 1 - first;
            run("block 0 0; block 0 0; input " + a + "; channel " + a + " " + b + " 50; buffers 0 2",
                "output " + a + "; output " + b + "; build = 3",
                "offer 0 1; tick 0 = 17; offer 0 2; tick 0 = 17; offer 0 3; tick 0 = 19",
                "byClock 0 0 = 1; byClock 0 1 = 2; byClock 0 2 = 3",
                "byClock 1 0 = 50; byClock 1 1 = 1; byClock 1 2 = 2");
        }
    }

    private static void firstTokens() {
        sentence("that of the register, with its value as one TOKEN at first");
        for (int behind = 0; behind <= 3; behind++) {
            run("block 0 0; block 0 0; channel 0 1 9; channel 1 0 8; output 1; buffers 0 " + behind,
                "build = " + (2 + behind), "inside 0 0 = 1; inside 1 0 = 1",
                often(behind, "tick 0 = 0"), "tick 0 = 1; value 0 0 = 9@" + behind);
        }
    }

    private static void emptyBuffers() {
        sentence("behind it 0 to 3 others, empty at first");
        run("block 0 0; channel 0 0 9; build = 1; inside 0 1 = argument");
        run("block 0 0; channel 0 0 9; buffers 0 1; build = 2; inside 0 1 = 0; inside 0 2 = argument");
        run("block 0 0; channel 0 0 9; buffers 0 2; build = 3; inside 0 1 = 0; inside 0 2 = 0; inside 0 3 = argument");
        run("block 0 0; channel 0 0 9; buffers 0 3; build = 4; inside 0 1 = 0; inside 0 2 = 0; inside 0 3 = 0",
            "inside 0 4 = argument");
    }

    private static void roomForTwo() {
        sentence("a buffer has room for two tokens");
        run("block 0 0; block 0 0; input 0; channel 0 1 7; output 1; build = 1",
            "offer 0 1; tick 1 = 16; inside 0 0 = 2",
            "offer 0 2; tick 1 = 0; inside 0 0 = 2; taken 0 = 1; offer 0 3 = false");
        run("block 0 0; block 0 0; channel 0 1 7; buffers 0 3; output 1; build = 4; run 1000 1 = 1000",
            "inside 0 0 = 2; inside 0 1 = 2; inside 0 2 = 2; inside 0 3 = 2; turns 0 = 7");
    }

    private static void orderOfTokens() {
        sentence("which come out in the order in which they came in");
        run("block 0 0; block 0 0; input 0; channel 0 1 7; output 1; build = 1",
            "offer 0 1; tick 1 = 16; offer 0 2; tick 1 = 0",
            "tick 0 = 1; value 0 0 = 7@2; tick 0 = 17; value 0 1 = 1@3; tick 0 = 1; value 0 2 = 2@4; tick 0 = 0");
        StringBuilder filled = new StringBuilder("block 0 0; block 0 0; input 0; channel 0 1 0; buffers 0 3; output 1; build = 4;");
        StringBuilder out = new StringBuilder("run 9 1 = 9;");
        for (int i = 1; i < 8; i++) {
            filled.append("offer 0 ").append(i).append(" = true; tick 1 = 16;");
        }
        for (int i = 0; i < 8; i++) {
            out.append("tick 0 = 1; value 0 ").append(i).append(" = ").append(i).append("@").append(16 + i).append(";");
        }
        run(filled.toString(), out.toString(), "tick 0 = 0");
    }

    private static void valueWaits() {
        sentence("At an input port a value may wait; it is taken by the block.");
        run("block 0 0; input 0; output 0; build = 0; tick 0 = 0; taken 0 = 0",
            "offer 0 5 = true; run 10 1 = 10; taken 0 = 0; offer 0 6 = false",
            "tick 0 = 17; taken 0 = 1; value 0 0 = 5@11; tick 0 = 0; taken 0 = 1; offer 0 6 = true");
    }

    /** A chain, with its blocks and channels numbered in every way. */
    private static void beginningOfTheTick() {
        sentence("what happens in one hangs alone on what there is at its beginning, and on which output ports are STALLED in it");
        int[][] numberings = {{0, 1, 2}, {0, 2, 1}, {1, 0, 2}, {1, 2, 0}, {2, 0, 1}, {2, 1, 0}};
        for (int[] n : numberings) {
            String early = "channel " + n[0] + " " + n[1] + " 10;";
            String late = "channel " + n[1] + " " + n[2] + " 20;";
            chainFillsAndDrains(n, early + late, 0, 1);
            chainFillsAndDrains(n, late + early, 1, 0);
        }
        roomGoesBack(0, 1);
        roomGoesBack(1, 0);
    }

    /** In a full row, the room that a token leaves behind goes back by one buffer a tick. */
    private static void roomGoesBack(int a, int b) {
        ElasticNets x = run("block 0 0; block 0 0; channel " + a + " " + b + " 1; buffers 0 3; output " + b + "; build = 4",
            "run 20 1 = 20; turns " + a + " = 7");
        rowIs(x, "tick 0 = 1", 2, 2, 2, 1);
        rowIs(x, "tick 1 = 0", 2, 2, 1, 2);
        rowIs(x, "tick 1 = 0", 2, 1, 2, 2);
        rowIs(x, "tick 1 = 0", 1, 2, 2, 2);
        go(x, "turns " + a + " = 7");
        rowIs(x, "tick 1 = 0", 2, 2, 2, 2);
        go(x, "turns " + a + " = 8");
        rowIs(x, "tick 0 = 1", 2, 2, 2, 1);
        rowIs(x, "tick 0 = 1", 2, 2, 1, 1);
        rowIs(x, "tick 0 = 1", 2, 1, 1, 1);
        rowIs(x, "tick 0 = 1", 1, 1, 1, 1);
        rowIs(x, "tick 0 = 1", 1, 1, 1, 1);
        go(x, "turns " + a + " = 9");
    }

    private static void rowIs(ElasticNets x, String calls, int... tokens) {
        go(x, calls);
        for (int buffer = 0; buffer < tokens.length; buffer++) {
            go(x, "inside 0 " + buffer + " = " + tokens[buffer]);
        }
    }

    private static void chainFillsAndDrains(int[] n, String channels, int p, int q) {
        ElasticNets x = run(often(3, "block 0 0"), "input " + n[0] + "; output " + n[2], channels, "build = 2");
        chainIs(x, p, q, "offer 0 1; tick 1 = 16", 1, 2);
        chainIs(x, p, q, "offer 0 2; tick 1 = 16", 2, 2);
        chainIs(x, p, q, "offer 0 3; tick 1 = 0", 2, 2);
        chainIs(x, p, q, "tick 0 = 1; value 0 0 = 20@3", 2, 1);
        chainIs(x, p, q, "tick 0 = 1; value 0 1 = 10@4", 1, 1);
        chainIs(x, p, q, "tick 0 = 17; value 0 2 = 1@5", 1, 1);
        chainIs(x, p, q, "tick 0 = 1; value 0 3 = 2@6", 0, 1);
        chainIs(x, p, q, "tick 0 = 1; value 0 4 = 3@7", 0, 0);
        chainIs(x, p, q, "tick 0 = 0", 0, 0);
    }

    private static void chainIs(ElasticNets x, int p, int q, String calls, int inEarly, int inLate) {
        go(x, calls, "inside " + p + " 0 = " + inEarly, "inside " + q + " 0 = " + inLate);
    }

    private static void goesOn() {
        sentence("From a buffer that isn't empty a token goes on to the next one of its channel if that has less than two.");
        ElasticNets x = run("block 0 0; block 0 0; input 0; channel 0 1 5; buffers 0 1; output 1; build = 2");
        go(x, "offer 0 6; tick 1 = 16; inside 0 0 = 1; inside 0 1 = 1");
        go(x, "tick 1 = 0; inside 0 0 = 0; inside 0 1 = 2");
        go(x, "tick 1 = 0; inside 0 0 = 0; inside 0 1 = 2");
        go(x, "offer 0 7; tick 1 = 16; inside 0 0 = 1; inside 0 1 = 2");
        go(x, "tick 1 = 0; inside 0 0 = 1; inside 0 1 = 2");
        go(x, "offer 0 8; tick 1 = 16; inside 0 0 = 2; inside 0 1 = 2");
        go(x, "tick 0 = 1; value 0 0 = 5@6; inside 0 0 = 2; inside 0 1 = 1");
        go(x, "tick 1 = 0; inside 0 0 = 1; inside 0 1 = 2");
        go(x, "tick 0 = 1; value 0 1 = 6@8; inside 0 0 = 1; inside 0 1 = 1");
        go(x, "tick 0 = 1; value 0 2 = 7@9; inside 0 0 = 0; inside 0 1 = 1");
        go(x, "tick 0 = 1; value 0 3 = 8@10; inside 0 0 = 0; inside 0 1 = 0");
        go(x, "tick 0 = 0; inside 0 0 = 0; inside 0 1 = 0");
        run("block 0 0; block 0 0; input 0; channel 0 1 5; buffers 0 3; build = 4",
            "tick 0 = 0; inside 0 0 = 0; inside 0 1 = 1; tick 0 = 0; inside 0 1 = 0; inside 0 2 = 1",
            "tick 0 = 0; inside 0 2 = 0; inside 0 3 = 1; turns 1 = 0; tick 0 = 0; inside 0 3 = 0; turns 1 = 1");
    }

    private static void readyByChannels() {
        sentence("A block is READY if the last buffer of each of its channels has a token");
        for (int behind = 0; behind <= 3; behind++) {
            run("block 0 0; block 0 0; channel 0 1 5; buffers 0 " + behind + "; output 1; build = " + (1 + behind),
                often(behind, "tick 0 = 0"), "tick 0 = 1; value 0 0 = 5@" + behind);
        }
        run("block 0 0; block 0 0; block 0 0; input 0; channel 0 1 1; channel 2 1 2; output 1; build = 2",
            "tick 0 = 1; value 0 0 = 3@0; inside 0 0 = 0; inside 1 0 = 1",
            "tick 0 = 0; inside 1 0 = 2; tick 0 = 0; inside 1 0 = 2; turns 1 = 1; got 1 = 0");
        run("block 0 0; block 0 0; block 0 0; channel 2 1 2; input 0; channel 0 1 1; output 1; build = 2",
            "tick 0 = 1; tick 0 = 0; inside 0 0 = 2; inside 1 0 = 0; turns 1 = 1");
    }

    private static void readyByInputPorts() {
        sentence("at each of its input ports a value waits");
        String design = "block 0 0; input 0; channel 0 0 1; input 0; output 0; build = 1;";
        run(design, "tick 0 = 0; inside 0 0 = 1; turns 0 = 0; got 0 = 0");
        run(design, "offer 0 10; tick 0 = 0; inside 0 0 = 1; got 0 = 0; offer 1 100; tick 0 = 49; value 0 0 = 111@1");
        run(design, "offer 1 10; tick 0 = 0; inside 0 0 = 1; got 0 = 0; offer 0 100; tick 0 = 49; value 0 0 = 111@1");
        run("block 0 0; block 0 0; input 0; input 1; output 1; build = 0",
            "offer 0 1; tick 0 = 16; offer 1 2; tick 0 = 33; value 0 0 = 2@1");
    }

    private static void readyWithoutInputs() {
        sentence("A block is READY if the last buffer of each of its channels has a token, and at each of its "
            + "input ports a value waits.");
        run("block 4 7; output 0; build = 0; tick 0 = 1; tick 0 = 1; tick 1 = 0; tick 0 = 1",
            "value 0 0 = 7@0; value 0 1 = 7@1; value 0 2 = 7@3; turns 0 = 3; byClock 0 999 = 7");
    }

    private static void branchNotGotYet() {
        sentence("If it is ready, each branch that has not GOT yet gets the value made of those");
        run("block 0 0; block 0 0; input 0; input 1; channel 0 1 9; channel 0 1 9; output 0; output 0; build = 2",
            "tick 0 = 0; given 0 = 0; inside 0 0 = 1",
            "offer 0 5; tick 1 = 2; inside 0 0 = 2; inside 1 0 = 2; got 0 = 11; value 1 0 = 5@1",
            "offer 1 0; tick 1 = 32; inside 0 0 = 1; inside 1 0 = 1; got 0 = 11",
            "tick 1 = 0; inside 0 0 = 1; inside 1 0 = 1; given 1 = 1; got 0 = 11",
            "tick 0 = 17; inside 0 0 = 1; given 1 = 1; value 0 0 = 5@4; got 0 = 0");
    }

    private static void channelGets() {
        sentence("a channel if its first buffer has less than two tokens");
        ElasticNets x = run("block 0 0; block 0 0; input 0; channel 0 1 5; buffers 0 1; output 1; build = 2");
        go(x, "run 2 1 = 2; inside 0 0 = 0; inside 0 1 = 1; offer 0 6; tick 1 = 16; tick 1 = 0; inside 0 1 = 2");
        go(x, "offer 0 7; tick 1 = 16; inside 0 0 = 1; inside 0 1 = 2");
        go(x, "offer 0 8; tick 1 = 16; inside 0 0 = 2; inside 0 1 = 2");
        go(x, "offer 0 9; tick 1 = 0; got 0 = 0; inside 0 0 = 2; inside 0 1 = 2");
        go(x, "tick 0 = 1; inside 0 0 = 2; inside 0 1 = 1");
        go(x, "tick 0 = 1; inside 0 0 = 1; inside 0 1 = 1; taken 0 = 3");
        go(x, "tick 0 = 17; inside 0 0 = 1; inside 0 1 = 1; taken 0 = 4");
    }

    private static void outputPortGets() {
        sentence("an output port if it is not stalled");
        for (int stalled = 0; stalled < 16; stalled++) {
            run("block 0 3; block 0 3; block 0 3; block 0 3; output 0; output 1; output 2; output 3; build = 0",
                "tick " + stalled + " = " + (15 - stalled), "tick " + (15 - stalled) + " = " + stalled);
        }
    }

    private static void turnEnds() {
        sentence("If all its branches have got then, its TURN ends: the tokens and waiting values that it was made of "
            + "are gone, and no branch has got");
        String design = "block 0 0; block 0 0; input 1; channel 1 0 4; input 0; output 0; output 0; output 0; build = 1;";
        run(design, "offer 1 10; tick 0 = 39; turns 0 = 1; inside 0 0 = 0; got 0 = 0; taken 1 = 1; offer 1 11 = true");
        run(design, "offer 1 10; tick 6 = 1; tick 5 = 2; turns 0 = 0; got 0 = 3",
            "tick 3 = 36; turns 0 = 1; inside 0 0 = 0; got 0 = 0; taken 1 = 1; offer 1 11 = true",
            "value 0 0 = 14@0; value 1 0 = 14@1; value 2 0 = 14@2; tick 0 = 0");
    }

    private static void turnEndsWithoutBranches() {
        sentence("If all its branches have got then, its TURN ends");
        run("block 0 0; build = 0; tick 0 = 0; turns 0 = 1; run 9 0 = 9; turns 0 = 10; got 0 = 0");
        run("block 0 0; block 0 0; input 0; input 1; channel 0 1 3; build = 1; tick 0 = 0; turns 1 = 0; inside 0 0 = 1",
            "offer 1 0; tick -1 = 32; turns 1 = 1; inside 0 0 = 0; got 1 = 0; offer 1 0; tick 0 = 0; turns 1 = 1");
    }

    private static void turnGoesOn() {
        sentence("else those that have got keep this, and nothing is gone.");
        run("block 0 0; block 0 0; input 1; channel 1 0 4; input 0; output 0; output 0; build = 1",
            "offer 1 10; tick 3 = 0; got 0 = 0; turns 0 = 0; inside 0 0 = 1; taken 1 = 0; offer 1 11 = false",
            "tick 1 = 2; got 0 = 2; turns 0 = 0; inside 0 0 = 1; taken 1 = 0; offer 1 11 = false",
            "offer 0 6; tick 1 = 16; got 0 = 2; turns 0 = 0; inside 0 0 = 2; taken 1 = 0",
            "tick 0 = 33; value 0 0 = 14@3; value 1 0 = 14@1; got 0 = 0; inside 0 0 = 1; taken 1 = 1");
    }

    private static void rateIs(int tokens, int length, String design) {
        run(design, "build; rate 0 = " + tokens + "; rate 1 = " + length);
    }

    /** The same rate, whatever numbers the blocks have: in the design they are letters, from A on. */
    private static void rateOfLetters(int tokens, int length, int blocks, String design) {
        for (int shift = 0; shift < blocks; shift++) {
            for (int turned = 0; turned < 2; turned++) {
                String numbered = design;
                for (int i = 0; i < blocks; i++) {
                    int number = (turned == 0 ? i + shift : blocks - 1 - i + shift) % blocks;
                    numbered = numbered.replace(" " + (char) ('A' + i), " " + number);
                }
                rateIs(tokens, length, often(blocks, "block 0 0") + numbered);
            }
        }
    }

    private static void rateIsTheLeast() {
        sentence("THE RATE is the least ratio of tokens to length of all cycles of arcs in this graph");
        String slow = "channel 0 0 0; buffers 0 2; channel 1 1 0; buffers 1 3; channel 2 2 0; buffers 2 1;";
        rateIs(1, 4, often(3, "block 0 0") + slow);
        rateIs(1, 4, often(4, "block 0 0") + slow + "channel 0 1 0; channel 1 2 0; channel 2 3 0");
        rateIs(1, 2, "block 0 0; channel 0 0 0; channel 0 0 0; buffers 0 1");
        rateIs(1, 3, "block 0 0; channel 0 0 0; channel 0 0 0; buffers 0 1; buffers 1 2");
        rateIs(2, 5, "block 0 0; block 0 0; channel 0 1 0; channel 1 0 0; channel 1 0 0; buffers 0 1; buffers 2 2");
    }

    private static void rateOfABlock() {
        sentence("from end to ready: 1 token, length 1");
        rateIs(1, 1, "block 0 0");
        rateIs(1, 1, often(10, "block 0 0"));
        rateIs(1, 1, "block 0 0; input 0; output 0");
        rateIs(1, 1, "block 0 0; block 0 0; channel 0 1 0");
        rateIs(1, 1, "block 0 0; block 0 0; channel 0 1 0; buffers 0 3; channel 0 1 0; buffers 1 3");
        rateIs(1, 2, "block 0 0; block 0 0; channel 0 1 0; channel 0 1 0; buffers 1 3");
    }

    private static void rateForwards() {
        sentence("t tokens, length 1");
        rateIs(1, 1, "block 0 0; channel 0 0 0");
        rateIs(1, 2, "block 0 0; channel 0 0 0; buffers 0 1");
        rateIs(1, 3, "block 0 0; channel 0 0 0; buffers 0 2");
        rateIs(1, 4, "block 0 0; channel 0 0 0; buffers 0 3");
        String ring = "block 0 0; block 0 0; block 0 0; channel 0 1 0; channel 1 2 0; channel 2 0 0;";
        rateIs(1, 1, ring);
        rateIs(3, 4, ring + "buffers 1 1");
        rateIs(3, 5, ring + "buffers 0 1; buffers 2 1");
        rateIs(3, 11, ring + "buffers 0 3; buffers 1 3; buffers 2 2");
    }

    /**
     * A long way there, and the room that a short way gives back, hop by hop: 1 token for the way there
     * and 1 for the turn of the first block, 1 for each register and 2 for each empty buffer on the way back.
     */
    private static void rateBackwards() {
        sentence("and the other way, but from the block's end in place of its ready: 2 - t tokens, length 1");
        String two = "channel A B 0; buffers 0 3; channel A B 0;";
        rateOfLetters(1, 2, 2, two);
        rateOfLetters(5, 7, 2, two + "buffers 1 1");
        rateOfLetters(7, 8, 2, two + "buffers 1 2");
        rateOfLetters(1, 1, 2, two + "buffers 1 3");
        String three = "channel A B 0; buffers 0 3; channel A C 0; channel C B 0;";
        rateOfLetters(4, 7, 3, three);
        rateOfLetters(3, 4, 3, three + "buffers 1 1");
        rateOfLetters(3, 4, 3, three + "buffers 2 1");
        String four = "channel A B 0; channel B C 0; buffers 0 3; buffers 1 3; channel A D 0; channel D C 0;";
        rateOfLetters(5, 11, 4, four);
        rateOfLetters(5, 11, 10, four);
    }

    /** As many blocks, channels and buffers as there may be. */
    private static void rateOfTheLargest() {
        sentence("there is one for each two that follow");
        StringBuilder rings = new StringBuilder(often(10, "block 0 0"));
        for (int channel = 0; channel < 20; channel++) {
            int from = channel % 10;
            int to = (channel < 10 ? from + 1 : from + 9) % 10;
            rings.append("channel " + from + " " + to + " 0; buffers " + channel + " 3;");
        }
        rateIs(1, 4, rings.toString());
        // A ring that is faster than the other waits for it: 10 of 40 against 10 of 10.
        for (int channel = 10; channel < 20; channel++) {
            rings.append("buffers " + channel + " 0;");
        }
        rateIs(1, 4, rings.toString());
        StringBuilder ladder = new StringBuilder(often(10, "block 0 0"));
        for (int channel = 0; channel < 9; channel++) {
            ladder.append("channel " + (9 - channel) + " " + (8 - channel) + " 0; buffers " + channel + " 3;");
        }
        for (int channel = 9; channel < 18; channel++) {
            ladder.append("channel " + (18 - channel) + " " + (17 - channel) + " 0;");
        }
        // 9 long channels there, 9 short ones back, and the first block's turn.
        rateIs(19, 46, ladder.toString());
    }
}
