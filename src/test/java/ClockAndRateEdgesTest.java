/** Promises 20 and 21: each sentence about an edge or a wrong call, with runs of its own. */
public final class ClockAndRateEdgesTest extends Runs {
    /** Counts up from 5, and gives the count and what a register had of it one cycle before. */
    private static final String COUNTER = "block 0 1; block 0 0; channel 0 0 5; channel 0 1 50; output 1; output 0;";

    public static void main(String[] args) {
        valuesTaken();
        doesNotHangOnThePatientMachine();
        clockNotBuilt();
        clockNoPort();
        clockCycle();
        clockNotTaken();
        clockPortOfAnotherBlock();
        lowestTerms();
        rateWithoutBlocks();
        rateStays();
        rateNotBuilt();
        rateWhat();
        finish();
    }

    private static void valuesTaken() {
        sentence("What an output port gives by the clock in cycle k, the values of the input ports being those that were taken.");
        run("block 4 0; input 0; channel 0 0 1; output 0; build = 1; offer 0 7; offer 0 8 = false; tick 0 = 17",
            "byClock 0 0 = 218; offer 0 9; tick 1 = 0; byClock 0 1 = index; tick 0 = 17; byClock 0 1 = 497",
            "byClock 0 0 = 218; value 0 0 = 218@0; value 0 1 = 497@2",
            "restart; offer 0 0; tick 0 = 17; byClock 0 0 = 1; byClock 0 1 = index; offer 0 MIN; tick 0 = 17; byClock 0 1 = -2147483647");
        StringBuilder sums = new StringBuilder("block 0 0; input 0; channel 0 0 0; output 0; build = 1;");
        int sum = 0;
        for (int k = 0; k < 160; k++) {
            sum += k * k;
            sums.append("offer 0 " + k * k + "; tick 0 = 17; byClock 0 " + k + " = " + sum + ";");
        }
        run(sums.toString(), "byClock 0 3 = 14; byClock 0 160 = index");
    }

    private static void doesNotHangOnThePatientMachine() {
        sentence("What an output port gives by the clock in cycle k");
        run(COUNTER, "buffers 0 1; buffers 1 3; build = 6; byClock 0 0 = 50; byClock 0 1 = 6; byClock 0 2 = 7; byClock 1 0 = 6",
            "byClock 0 999 = 1004; byClock 1 999 = 1005; run 10 3 = 10; byClock 0 1 = 6; byClock 1 999 = 1005",
            "restart; byClock 0 0 = 50; byClock 0 999 = 1004");
        run("block 0 0; block 0 0; input 0; channel 0 1 50; buffers 0 3; output 1; build = 4; offer 0 3; tick 1 = 16",
            "offer 0 4; tick 1 = 16; given 0 = 0; byClock 0 0 = 50; byClock 0 1 = 3; byClock 0 2 = index");
        largestByTheClock();
        run(COUNTER, "build = 2; byClock 1 7 = 13; clear; block 0 2; block 0 0; channel 0 0 5; channel 0 1 50; output 1; output 0",
            "build = 2; byClock 1 7 = 21; byClock 0 0 = 50; byClock 0 1 = 7");
    }

    /** As many blocks, channels and ports as there may be: a ring in which values go round twice as large. */
    private static void largestByTheClock() {
        StringBuilder ring = new StringBuilder();
        for (int block = 0; block < 10; block++) {
            ring.append("block 0 ").append(block).append(";");
        }
        for (int channel = 0; channel < 20; channel++) {
            ring.append("channel " + channel % 10 + " " + (channel + 1) % 10 + " " + channel * channel + ";");
        }
        run(ring.toString(), "input 9; input 0; input 9; input 5; output 9; output 0; output 8; output 5; build = 20",
            "offer 0 1000; offer 1 2000; offer 2 3000; offer 3 4000; tick 0 = 255",
            "byClock 0 0 = 4397; byClock 1 0 = 2442; byClock 2 0 = 346; byClock 3 0 = 4217; byClock 0 1 = index",
            "value 0 0 = 4397@0; value 1 0 = 2442@0; value 2 0 = 346@0; value 3 0 = 4217@0",
            "offer 0 1; offer 1 2; offer 2 3; offer 3 4; tick 0 = 255",
            "byClock 0 1 = 705; byClock 1 1 = 8796; byClock 2 1 = 606; byClock 3 1 = 373");
    }

    private static void clockNotBuilt() {
        sentence("What an output port gives by the clock in cycle k, .. IllegalStateException: it is not built.");
        run(COUNTER, "byClock 0 0 = state; build = 2; byClock 0 0 = 50; clear; byClock 0 0 = state");
    }

    private static void clockNoPort() {
        sentence("What an output port gives by the clock in cycle k, .. IllegalArgumentException: there is no such port.");
        run(COUNTER, "build = 2; byClock -1 0 = argument; byClock 2 0 = argument; byClock MIN 0 = argument; byClock MAX 0 = argument",
            "byClock 1 0 = 6");
        run("block 0 0; input 0; build = 0; byClock 0 0 = argument");
        run("block 0 3; output 0; output 0; output 0; output 0; build = 0; byClock 3 0 = 3; byClock 4 0 = argument");
        run(COUNTER, "clear; block 0 3; output 0; build = 0; byClock 0 0 = 3; byClock 1 0 = argument");
    }

    private static void clockCycle() {
        sentence("IndexOutOfBoundsException: k is not 0 to 999");
        run(COUNTER, "build = 2; byClock 0 -1 = index; byClock 0 1000 = index; byClock 0 MIN = index; byClock 0 MAX = index",
            "byClock 0 999 = 1004; byClock 0 1000 = index; byClock 0 0 = 50; byClock 0 -1 = index; run 1000 0 = 1000",
            "byClock 0 1000 = index; byClock 0 999 = 1004; value 0 999 = 1004@999");
        run("block 0 0; input 0; output 0; build = 0; byClock 0 -1 = index; offer 0 1; tick 0 = 17; byClock 0 -1 = index");
    }

    private static void clockNotTaken() {
        sentence("some input port has not taken a value for cycle k");
        String design = "block 0 0; input 0; input 0; output 0; build = 0;";
        run(design, "byClock 0 0 = index; offer 0 1; byClock 0 0 = index; tick 0 = 0; byClock 0 0 = index; offer 1 2",
            "byClock 0 0 = index; tick 1 = 0; byClock 0 0 = index; tick 0 = 49; byClock 0 0 = 3; byClock 0 1 = index",
            "offer 0 5; offer 1 6; byClock 0 1 = index; tick 0 = 49; byClock 0 1 = 11; byClock 0 2 = index; byClock 0 999 = index",
            "byClock 0 0 = 3; restart; byClock 0 0 = index");
    }

    /** Neither an input that the output doesn't hang on nor a value given already makes up for it. */
    private static void clockPortOfAnotherBlock() {
        sentence("k is not 0 to 999, or some input port has not taken a value for cycle k.");
        run("block 0 7; block 0 0; block 0 0; output 0; input 1; input 2; build = 0; tick 0 = 1; byClock 0 0 = index",
            "offer 0 1; tick 0 = 17; byClock 0 0 = index; offer 1 1; tick 0 = 33; byClock 0 0 = 7; byClock 0 1 = index",
            "offer 1 1; tick 0 = 33; byClock 0 1 = index; offer 0 1; tick 0 = 17; byClock 0 1 = 7; byClock 0 2 = index");
        run("block 0 0; block 0 0; input 0; channel 0 1 7; output 1; build = 1; tick 0 = 1; value 0 0 = 7@0; byClock 0 0 = index",
            "offer 0 4; tick 0 = 16; byClock 0 0 = 7; byClock 0 1 = index; tick 0 = 1; value 0 1 = 4@2; byClock 0 1 = index");
    }

    private static void lowestTerms() {
        sentence("The rate, in lowest terms: its tokens (what = 0), its length (1)");
        String four = often(4, "block 0 0") + "channel 0 1 0; channel 1 2 0; channel 2 3 0; channel 3 0 0;";
        run(four, "build = 4; rate 0 = 1; rate 1 = 1");
        run(four, "buffers 0 1; build = 5; rate 0 = 4; rate 1 = 5");
        run(four, "buffers 0 2; build = 6; rate 0 = 2; rate 1 = 3");
        run(four, "buffers 0 2; buffers 3 2; build = 8; rate 0 = 1; rate 1 = 2");
        run(four, "buffers 0 3; buffers 1 3; build = 10; rate 0 = 2; rate 1 = 5");
        run(four, "buffers 0 3; buffers 1 3; buffers 2 3; buffers 3 3; build = 16; rate 1 = 4; rate 0 = 1");
        StringBuilder ten = new StringBuilder(often(10, "block 0 0"));
        for (int i = 0; i < 10; i++) {
            ten.append("channel " + i + " " + (i + 1) % 10 + " 0; buffers " + i + " " + (i < 9 ? 3 : 0) + ";");
        }
        run(ten.toString(), "build = 37; rate 0 = 10; rate 1 = 37");
        run(ten.toString(), "buffers 9 1; build = 38; rate 0 = 5; rate 1 = 19");
        run(ten.toString(), "buffers 9 3; build = 40; rate 0 = 1; rate 1 = 4");
    }

    private static void rateWithoutBlocks() {
        sentence("1 and 1 when there is no block");
        run("build = 0; rate 0 = 1; rate 1 = 1");
        run("block 0 0; channel 0 0 0; buffers 0 3; build = 4; rate 0 = 1; rate 1 = 4; clear; build = 0; rate 0 = 1; rate 1 = 1");
        run("block 0 0; block 0 0; channel 0 1 0; channel 1 0 0; buffers 0 1; build = 3; rate 0 = 2; rate 1 = 3",
            "clear; build = 0; rate 1 = 1; rate 0 = 1");
    }

    private static void rateStays() {
        sentence("The rate");
        run("block 3 9; block 2 9; channel 0 1 9; channel 1 0 9; buffers 0 1; input 0; output 0; build = 3; rate 0 = 2; rate 1 = 3",
            "offer 0 1; run 7 1; rate 0 = 2; rate 1 = 3; run 1000 0; rate 0 = 2; rate 1 = 3; restart; rate 1 = 3; rate 0 = 2",
            "clear; block 0 0; channel 0 0 0; buffers 0 2; build = 3; rate 1 = 3; rate 0 = 1");
    }

    private static void rateNotBuilt() {
        sentence("The rate, .. IllegalStateException: it is not built.");
        run("rate 0 = state; rate 1 = state; block 0 0; rate 0 = state; build = 0; rate 0 = 1; clear; rate 0 = state; rate 1 = state");
    }

    private static void rateWhat() {
        sentence("IllegalArgumentException: another what.");
        run("build = 0; rate -1 = argument; rate 2 = argument; rate MIN = argument; rate MAX = argument; rate 0 = 1; rate 1 = 1");
        run("block 0 0; channel 0 0 0; buffers 0 1; build = 2; rate 2 = argument; rate -1 = argument; rate 1 = 2; rate 0 = 1");
    }
}
