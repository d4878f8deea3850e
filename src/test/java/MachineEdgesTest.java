/** Promises 9 to 19: each sentence about an edge or a wrong call, with runs of its own. */
public final class MachineEdgesTest extends Runs {
    /** Two blocks, a channel with a buffer behind it, two ports of each kind. */
    private static final String SMALL = "block 0 0; block 0 100; input 0; input 1; channel 0 1 5; buffers 0 1;"
        + "output 1; output 0;";

    public static void main(String[] args) {
        restartStandsAtTheStart();
        restartNothingWaits();
        restartNotBuilt();
        offerAnotherWaits();
        offerTakenFewer();
        offerNotBuilt();
        offerNoPort();
        tickStalled();
        tickAnswer();
        tickNone();
        tickNotBuilt();
        runUpTo();
        runStalled();
        runNotBuilt();
        runN();
        ticksCount();
        ticksNotBuilt();
        turnsEnded();
        turnsNotBuilt();
        turnsNoBlock();
        gotBits();
        gotNotBuilt();
        gotNoBlock();
        insideCount();
        insideNotBuilt();
        insideNoChannel();
        takenCount();
        takenNotBuilt();
        takenNoPort();
        givenCount();
        givenNotBuilt();
        givenNoPort();
        valueBits();
        valueNotBuilt();
        valueNoPort();
        valueNotSoMany();
        finish();
    }

    private static void restartStandsAtTheStart() {
        sentence("The machine stands before tick 0 again");
        String start = "ticks = 0; turns 0 = 0; turns 1 = 0; got 0 = 0; got 1 = 0; inside 0 0 = 1; inside 0 1 = 0;"
            + "taken 0 = 0; taken 1 = 0; given 0 = 0; given 1 = 0; value 0 0 = index; value 1 0 = index;"
            + "byClock 0 0 = index; byClock 1 0 = index; rate 0 = 1; rate 1 = 1;"
            + "offer 0 7 = true; tick 0 = 18; offer 1 1 = true; tick 0 = 33; value 0 0 = 106@1; value 1 0 = 7@0;"
            + "byClock 0 0 = 106; byClock 1 0 = 7; tick 0 = 0; ticks = 3;";
        run(SMALL, "build = 2; restart = done;", start);
        run(SMALL, "build = 2; offer 0 3; offer 1 4; tick 3 = 0; tick 1 = 18; tick 0 = 33; byClock 0 0 = 109;",
            "offer 0 6; tick 2 = 0; got 0 = 1; turns 1 = 1; restart = done;", start, "restart = done;", start);
        run(SMALL, "build = 2; run 1000 0 = 1000; tick 0 = NONE; restart = done;", start);
        run("restart = state; build = 0; restart; tick 0 = 0; ticks = 1; restart; ticks = 0");
    }

    private static void restartNothingWaits() {
        sentence("nothing waits");
        run(SMALL, "build = 2; offer 0 3; offer 1 4; restart; tick 0 = 0; tick 0 = 0; offer 0 5 = true; offer 1 6 = true",
            "tick 0 = 51; value 0 0 = 111@2; value 1 0 = 5@2");
        run(often(4, "block 0 0; input 0"), "build = 0; offer 0 1; offer 1 1; offer 2 1; offer 3 1; restart",
            "tick 0 = 0; offer 0 1 = true; offer 1 1 = true; offer 2 1 = true; offer 3 1 = true; tick 0 = 240");
    }

    private static void restartNotBuilt() {
        sentence("The machine stands before tick 0 again; nothing waits. IllegalStateException: it is not built.");
        run("restart = state; build = 0; restart = done; clear = 0; restart = state; build = 0; restart = done");
        run(SMALL, "restart = state; block 0 0 = 2; build = 2");
    }

    private static void offerAnotherWaits() {
        sentence("A value waits at an input port. Answers whether it does: no other one waits there");
        run(SMALL, "build = 2; offer 0 MIN = true; offer 0 MAX = false; offer 1 0 = true; offer 1 0 = false",
            "tick 2 = 0; offer 0 1 = false; tick 0 = 51; value 1 0 = MIN@1; offer 0 1 = true; offer 0 2 = false",
            "offer 1 2 = true; tick 2 = 33; value 1 0 = MIN@1; tick 0 = 18; value 1 1 = 1@3");
    }

    /** 1000 are out of reach of the calls that an object is used for; up to the last of these none is refused. */
    private static void offerTakenFewer() {
        sentence("the port has not taken 1000");
        run("block 0 0; input 0; build = 0;", often(254, "offer 0 1 = true; tick 0 = 16"), "offer 0 1 = true");
        run("block 0 0; input 0; output 0; build = 0; run 1000 0 = 1000; offer 0 1 = true; offer 0 1 = false; taken 0 = 0",
            "tick 0 = NONE; offer 0 2 = false; restart; offer 0 2 = true; tick 0 = 17; value 0 0 = 2@0");
    }

    private static void offerNotBuilt() {
        sentence("A value waits at an input port. .. IllegalStateException: it is not built.");
        run("offer 0 0 = state; block 0 0; input 0; offer 0 0 = state; build = 0; tick 0 = 0; offer 0 0 = true",
            "clear; offer 0 0 = state");
    }

    private static void offerNoPort() {
        sentence("A value waits at an input port. .. IllegalArgumentException: there is no such port.");
        noSuch("block 0 0; output 0; output 0; build = 0", "offer * 1", 0);
        noSuch("block 0 0; input 0; output 0; output 0; build = 0", "offer * 1", 1);
        noSuch("block 0 0;" + often(4, "input 0") + "build = 0", "offer * 1", 4);
    }

    /** Numbers outside 0 to count - 1 are refused, in the place of the star. */
    private static void noSuch(String design, String call, int count) {
        ElasticNets x = run(design);
        for (String number : new String[] {"-1", "-2", "MIN", "MAX", "32", "" + count, "" + (count + 1)}) {
            go(x, call.replace("*", number) + " = argument");
        }
        for (int number = 0; number < count; number++) {
            go(x, call.replace("*", "" + number));
        }
    }

    private static void tickStalled() {
        sentence("One tick, in which those output ports are stalled whose bits (from the lowest on) are 1.");
        ElasticNets x = run("block 0 0; block 0 0; block 0 0; block 0 0; output 0; output 1; output 2; output 3; build = 0");
        go(x, "tick 0 = 15; tick 1 = 14; tick 2 = 13; tick 4 = 11; tick 8 = 7; tick 15 = 0; tick 9 = 6; tick 10 = 5");
        go(x, "tick 16 = 15; tick 32 = 15; tick 17 = 14; tick 240 = 15; tick MIN = 15; tick -16 = 15; tick -1 = 0");
        go(x, "tick MAX = 0; tick -2 = 1; tick -9 = 8; ticks = 18");
        run("block 0 0; output 0; build = 0; tick 2 = 1; tick 14 = 1; tick -2 = 1; tick 3 = 0; tick 1 = 0; given 0 = 3");
        run("block 0 0; input 0; build = 0; offer 0 1; tick -1 = 16");
    }

    private static void tickAnswer() {
        sentence("Answers which got a value, as bits, and 16 times which input ports' values were taken");
        ElasticNets x = run("block 0 0; block 0 0; block 0 0; block 0 0; input 0; input 1; input 2; input 3",
            "output 0; output 1; output 2; output 3; build = 0; tick 0 = 0");
        go(x, "offer 0 1; tick 0 = 17; offer 1 1; tick 0 = 34; offer 2 1; tick 0 = 68; offer 3 1; tick 0 = 136");
        go(x, "offer 0 1; offer 1 1; offer 2 1; offer 3 1; tick 6 = 153; tick 9 = 102; tick 0 = 0");
        go(x, "offer 0 1; offer 1 1; offer 2 1; offer 3 1; tick 0 = 255");
        run("block 0 0; input 0; output 0; output 0; build = 0; offer 0 1; tick 2 = 1; tick 3 = 0; tick 1 = 18");
        run("block 0 0; input 0; build = 0; tick 0 = 0; offer 0 1; tick 0 = 16; tick 0 = 0");
    }

    private static void tickNone() {
        sentence("NONE when there were 1000 ticks.");
        run("block 0 0; output 0; build = 0; run 999 0 = 999; tick 0 = 1; value 0 999 = 0@999",
            "tick 0 = NONE; tick -1 = NONE; ticks = 1000; given 0 = 1000; turns 0 = 1000; restart; tick 0 = 1");
        run("build = 0; run 1000 0 = 1000; tick 0 = NONE; clear; build = 0; tick 0 = 0");
    }

    private static void tickNotBuilt() {
        sentence("One tick, .. IllegalStateException: it is not built.");
        run("tick 0 = state; block 0 0; output 0; tick 0 = state; build = 0; tick 0 = 1; clear; tick 0 = state");
    }

    private static void runUpTo() {
        sentence("Up to n ticks, with the same ports stalled, as long as there are no more than 1000. Answers how many there were.");
        run("block 0 0; output 0; build = 0; run 0 0 = 0; ticks = 0; given 0 = 0; run 1 0 = 1; given 0 = 1",
            "run 998 0 = 998; run 0 0 = 0; run 2 0 = 1; run 1 0 = 0; run 0 0 = 0; run 1000 0 = 0; ticks = 1000",
            "given 0 = 1000; value 0 999 = 0@999; restart; run 1000 0 = 1000; given 0 = 1000");
        run("build = 0; run 1000 0 = 1000; run 1000 0 = 0; restart; run 600 0 = 600; run 600 0 = 400");
    }

    private static void runStalled() {
        sentence("Up to n ticks, with the same ports stalled");
        run("block 0 0; block 0 0; output 0; output 1; build = 0; run 7 1 = 7; given 0 = 0; given 1 = 7",
            "run 5 2 = 5; given 0 = 5; given 1 = 7; run 3 -1 = 3; given 0 = 5; given 1 = 7",
            "run 2 4 = 2; given 0 = 7; given 1 = 9; value 0 6 = 0@16");
        ElasticNets x = run(SMALL, "build = 2; offer 0 1; offer 1 2; run 4 2 = 4");
        ElasticNets y = run(SMALL, "build = 2; offer 0 1; offer 1 2; tick 2 = 0; tick 2 = 33; tick 2 = 0; tick 2 = 0");
        String then = "got 0 = 1; got 1 = 0; turns 0 = 0; turns 1 = 1; inside 0 0 = 0; inside 0 1 = 1; value 0 0 = 107@1;"
            + "taken 0 = 0; taken 1 = 1; given 0 = 1; given 1 = 0; ticks = 4";
        go(x, then);
        go(y, then);
    }

    private static void runNotBuilt() {
        sentence("Up to n ticks, .. IllegalStateException: it is not built.");
        run("run 0 0 = state; run 1 0 = state; block 0 0; run 1 0 = state; build = 0; run 1 0 = 1; clear; run 0 0 = state");
    }

    private static void runN() {
        sentence("IllegalArgumentException: n is not 0 to 1000.");
        run("build = 0; run -1 0 = argument; run 1001 0 = argument; run MIN 0 = argument; run MAX 0 = argument; ticks = 0",
            "run 0 0 = 0; run 1000 0 = 1000; run 1001 0 = argument; run -1 0 = argument; run 1000 0 = 0");
    }

    private static void ticksCount() {
        sentence("How many ticks there were.");
        run("build = 0; ticks = 0; tick 0 = 0; ticks = 1; run 0 0; ticks = 1; run -1 0 = argument; ticks = 1; run 5 -1 = 5",
            "ticks = 6; run 993 0 = 993; ticks = 999; tick 0 = 0; ticks = 1000; tick 0 = NONE; ticks = 1000; restart; ticks = 0");
        run("block 0 0; input 0; output 0; build = 0; tick 1 = 0; offer 0 1; ticks = 1; tick 1 = 0; ticks = 2");
    }

    private static void ticksNotBuilt() {
        sentence("How many ticks there were. IllegalStateException: it is not built.");
        run("ticks = state; block 0 0; ticks = state; build = 0; ticks = 0; clear; ticks = state");
    }

    private static void turnsEnded() {
        sentence("How many turns of a block have ended.");
        run("block 0 0; block 0 0; block 0 0; input 1; channel 1 2 0; channel 2 2 0; output 1; output 1; build = 2",
            "turns 0 = 0; turns 1 = 0; turns 2 = 0; tick 0 = 0; turns 0 = 1; turns 1 = 0; turns 2 = 1",
            "offer 0 0; tick 3 = 0; turns 1 = 0; tick 2 = 1; turns 1 = 0; tick 1 = 18; turns 1 = 1; turns 2 = 2",
            "run 996 0 = 996; turns 0 = 1000; turns 1 = 1; turns 2 = 2");
    }

    private static void turnsNotBuilt() {
        sentence("How many turns of a block have ended. IllegalStateException: it is not built.");
        run("block 0 0; turns 0 = state; build = 0; turns 0 = 0; clear; turns 0 = state");
    }

    private static void turnsNoBlock() {
        sentence("How many turns of a block have ended. .. IllegalArgumentException: there is no such block.");
        noSuch("build = 0", "turns *", 0);
        noSuch("block 0 0; block 0 0; build = 0", "turns *", 2);
        noSuch(often(10, "block 0 0") + "build = 0", "turns *", 10);
        noSuch(often(10, "block 0 0") + "clear; block 0 0; build = 0", "turns *", 1);
    }

    private static void gotBits() {
        sentence("Which branches of a block have got, as bits, the first branch as the lowest.");
        String forks = "block 0 0; block 0 0; output 0; channel 0 1 0; input 0; output 0; channel 0 0 0; output 0; build = 2;";
        run(forks, "got 0 = 0; got 1 = 0; tick 0 = 0; got 0 = 0; offer 0 0; tick 5 = 2; got 0 = 14; got 1 = 0",
            "tick 7 = 0; got 0 = 14; tick 1 = 4; got 0 = 30; tick 6 = 17; got 0 = 0");
        run(forks, "offer 0 0; tick 6 = 1; got 0 = 11; tick 3 = 4; got 0 = 27; tick 0 = 18; got 0 = 0");
        run("block 0 0;", often(20, "channel 0 0 0"), often(4, "output 0"), "build = 20; tick 7 = 8; got 0 = 9437183",
            "tick 3 = 4; got 0 = 13631487; tick 0 = 3; got 0 = 0; turns 0 = 1");
        run("block 0 0; block 0 0; output 1; build = 0; tick 1 = 0; got 0 = 0; got 1 = 0");
    }

    private static void gotNotBuilt() {
        sentence("Which branches of a block have got, .. IllegalStateException: it is not built.");
        run("block 0 0; got 0 = state; build = 0; got 0 = 0; clear; got 0 = state");
    }

    private static void gotNoBlock() {
        sentence("Which branches of a block have got, .. IllegalArgumentException: there is no such block.");
        noSuch("build = 0", "got *", 0);
        noSuch("block 0 0; block 0 0; build = 0", "got *", 2);
        noSuch(often(10, "block 0 0") + "build = 0", "got *", 10);
        noSuch(often(10, "block 0 0") + "clear; block 0 0; build = 0", "got *", 1);
    }

    private static void insideCount() {
        sentence("How many tokens a buffer of a channel has (that of the register is 0, the others 1 to 3).");
        run("block 0 0; block 0 0; channel 0 1 0; channel 0 1 0; buffers 1 3; output 1; build = 5",
            "inside 0 0 = 1; inside 1 0 = 1; inside 1 1 = 0; inside 1 2 = 0; inside 1 3 = 0",
            "tick 0 = 0; inside 0 0 = 2; inside 1 0 = 1; inside 1 1 = 1; inside 1 2 = 0; inside 1 3 = 0",
            "tick 0 = 0; inside 0 0 = 2; inside 1 0 = 1; inside 1 1 = 1; inside 1 2 = 1; inside 1 3 = 0",
            "tick 0 = 0; inside 0 0 = 2; inside 1 0 = 0; inside 1 1 = 1; inside 1 2 = 1; inside 1 3 = 1",
            "tick 0 = 1; inside 0 0 = 1; inside 1 0 = 0; inside 1 1 = 0; inside 1 2 = 1; inside 1 3 = 1");
    }

    private static void insideNotBuilt() {
        sentence("How many tokens a buffer of a channel has .. IllegalStateException: it is not built.");
        run("block 0 0; channel 0 0 0; inside 0 0 = state; build = 1; inside 0 0 = 1; clear; inside 0 0 = state");
    }

    private static void insideNoChannel() {
        sentence("IllegalArgumentException: there is no such channel, or buffer.");
        noSuch("block 0 0; build = 0", "inside * 0", 0);
        noSuch("block 0 0; channel 0 0 0; channel 0 0 0; build = 2", "inside * 0", 2);
        noSuch("block 0 0;" + often(20, "channel 0 0 0") + "build = 20", "inside * 0", 20);
        for (int behind = 0; behind <= 3; behind++) {
            String design = "block 0 0; channel 0 0 0; channel 0 0 0; channel 0 0 0; buffers 0 3; buffers 2 3; buffers 1 ";
            noSuch(design + behind + "; build", "inside 1 *", behind + 1);
        }
    }

    private static void takenCount() {
        sentence("How many values an input port's block took.");
        run("block 0 0; block 0 0; input 0; input 1; input 1; output 1; output 1; build = 0; taken 0 = 0; taken 1 = 0",
            "offer 0 0; taken 0 = 0; tick 0 = 16; taken 0 = 1; offer 1 0; tick 0 = 0; taken 1 = 0; offer 2 0",
            "tick 3 = 0; taken 1 = 0; tick 1 = 2; taken 1 = 0; tick 0 = 97; taken 1 = 1; taken 2 = 1; taken 0 = 1",
            "tick 0 = 0; taken 1 = 1");
        run("block 0 0; input 0; build = 0;", often(200, "offer 0 0; tick 0 = 16"), "taken 0 = 200; restart; taken 0 = 0");
    }

    private static void takenNotBuilt() {
        sentence("How many values an input port's block took. IllegalStateException: it is not built.");
        run("block 0 0; input 0; taken 0 = state; build = 0; taken 0 = 0; clear; taken 0 = state");
    }

    private static void takenNoPort() {
        sentence("How many values an input port's block took. .. IllegalArgumentException: there is no such port.");
        noSuch("block 0 0; output 0; output 0; build = 0", "taken *", 0);
        noSuch("block 0 0; input 0; output 0; output 0; build = 0", "taken *", 1);
        noSuch("block 0 0;" + often(4, "input 0") + "build = 0", "taken *", 4);
    }

    private static void givenCount() {
        sentence("How many values an output port got.");
        run("block 0 0; input 0; output 0; output 0; build = 0; given 0 = 0; given 1 = 0; tick 0 = 0; given 0 = 0",
            "offer 0 0; tick 1 = 2; given 0 = 0; given 1 = 1; tick 1 = 0; given 1 = 1; tick 2 = 17; given 0 = 1; given 1 = 1");
        run("block 0 0; output 0; build = 0; run 1000 0 = 1000; given 0 = 1000; tick 0 = NONE; given 0 = 1000; restart; given 0 = 0");
    }

    private static void givenNotBuilt() {
        sentence("How many values an output port got. IllegalStateException: it is not built.");
        run("block 0 0; output 0; given 0 = state; build = 0; given 0 = 0; clear; given 0 = state");
    }

    private static void givenNoPort() {
        sentence("How many values an output port got. .. IllegalArgumentException: there is no such port.");
        noSuch("block 0 0; input 0; input 0; build = 0", "given *", 0);
        noSuch("block 0 0; output 0; input 0; input 0; build = 0", "given *", 1);
        noSuch("block 0 0;" + often(4, "output 0") + "build = 0", "given *", 4);
    }

    private static void valueBits() {
        sentence("Value k that an output port got, and the tick in which it did: this times 2 to the 32, and the 32 bits of the value.");
        run("block 0 0; input 0; output 0; build = 0",
            "offer 0 -1; tick 0 = 17; offer 0 MIN; tick 0 = 17; offer 0 MAX; tick 0 = 17; offer 0 0; tick 0 = 17",
            "offer 0 -2; run 990 1 = 990; offer 0 0 = false; run 5 1 = 5; tick 0 = 17",
            "value 0 0 = -1@0; value 0 1 = MIN@1; value 0 2 = MAX@2; value 0 3 = 0@3; value 0 4 = -2@999");
        ElasticNets x = run("block 0 -1; output 0; output 0; build = 0; tick 2 = 1; tick 0 = 2; run 998 0 = 998");
        same("value 0 0", answer(x, "value 0 0"), "4294967295");
        same("value 1 0", answer(x, "value 1 0"), "8589934591");
        same("value 0 998", answer(x, "value 0 998"), "4294967295999");
    }

    private static void valueNotBuilt() {
        sentence("Value k that an output port got, .. IllegalStateException: it is not built.");
        run("block 0 0; output 0; value 0 0 = state; build = 0; tick 0 = 1; value 0 0 = 0@0; clear; value 0 0 = state");
    }

    private static void valueNoPort() {
        sentence("Value k that an output port got, .. IllegalArgumentException: there is no such port.");
        noSuch("block 0 0; input 0; input 0; build = 0; tick 0", "value * 0", 0);
        noSuch("block 0 0; output 0; build = 0; tick 0", "value * 0", 1);
        noSuch("block 0 0;" + often(4, "output 0") + "build = 0; tick 0", "value * 0", 4);
    }

    private static void valueNotSoMany() {
        sentence("IndexOutOfBoundsException: it has not got so many.");
        run("block 0 0; output 0; output 0; build = 0; value 0 0 = index; value 0 -1 = index; value 0 MIN = index",
            "value 0 MAX = index; tick 2 = 1; value 0 0 = 0@0; value 0 1 = index; value 0 -1 = index; value 1 0 = index",
            "tick 0 = 2; value 1 0 = 0@1; value 0 1 = index; run 998 0 = 998; value 0 998 = 0@999; value 0 999 = index",
            "value 1 998 = 0@999; value 1 999 = index; restart; value 0 0 = index");
        run("block 0 0; output 0; build = 0; run 1000 0 = 1000; value 0 999 = 0@999; value 0 1000 = index; value 0 MAX = index",
            "clear; block 0 0; output 0; build = 0; value 0 0 = index");
    }
}
