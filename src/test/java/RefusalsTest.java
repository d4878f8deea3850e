/** "Methods throw what their comments name, ..": which exception comes, and that a refused call changes nothing. */
public final class RefusalsTest extends Runs {
    private static final String PART = "block 4 3; block 0 2; channel 0 1 5; channel 1 0 -7; channel 1 1 1; buffers 1 2;"
        + "input 0; input 1; output 1; output 0;";
    private static final String FULL = often(10, "block 4 3") + "channel 0 9 4; channel 9 0 6; buffers 0 2;"
        + often(18, "channel 3 4 2") + often(4, "input 9; output 0");
    /** Values wait, turns have begun, buffers are full, ports of both kinds have had values. */
    private static final String MIDWAY = PART + "build = 5; offer 0 9; offer 1 8; run 3 0; offer 1 6; offer 0 7; run 3 3;";
    private static final String AT_THE_END = PART + "build = 5; offer 0 9; offer 1 8; run 990 0; offer 1 6; offer 0 7; run 10 3;";

    private static final String[] WRONG_BLOCKS = {"-1", "10", "MIN", "MAX"};

    /** When an object is asked for its state. */
    private enum Asked { AT_ONCE, AFTER_TICKS, AFTER_RESTART }

    public static void main(String[] args) {
        stateComesFirstWhenBuilt();
        stateComesFirstWhenNotBuilt();
        argumentComesBeforeIndex();
        throwsBeforeNone();
        stateBeforeNone();
        throwingInAPartOfADesign();
        throwingInAFullDesign();
        throwingInAMachine();
        throwingAtTheEnd();
        noneChangesNothing();
        finish();
    }

    private static void stateComesFirstWhenBuilt() {
        sentence("Methods throw what their comments name, the one named first when several would do");
        run(PART, "build = 5; block 5 0 = state; block -1 0 = state; channel 9 0 0 = state; channel 0 -1 0 = state",
            "input 9 = state; input -1 = state; output 9 = state; output -1 = state",
            "buffers 9 0 = state; buffers 0 4 = state; buffers -1 -1 = state");
    }

    private static void stateComesFirstWhenNotBuilt() {
        sentence("the one named first when several would do");
        run(PART, "offer 9 0 = state; offer -1 0 = state; run -1 0 = state; run 1001 0 = state; turns 9 = state; turns -1 = state",
            "got 9 = state; got -1 = state; inside 9 0 = state; inside 0 9 = state; taken 9 = state; taken -1 = state",
            "given 9 = state; given -1 = state; value 9 0 = state; value 0 -1 = state; value -1 -1 = state",
            "byClock 9 0 = state; byClock 0 -1 = state; byClock 0 1000 = state; rate 2 = state; rate -1 = state");
    }

    private static void argumentComesBeforeIndex() {
        sentence("Methods throw what their comments name, the one named first");
        run(PART, "build = 5; value 2 0 = argument; value 2 -1 = argument; value -1 -1 = argument; value -1 1000 = argument",
            "byClock 2 0 = argument; byClock 2 -1 = argument; byClock -1 1000 = argument; byClock -1 MIN = argument",
            "value 0 0 = index; byClock 0 0 = index");
    }

    private static void throwsBeforeNone() {
        sentence("and before they would answer NONE");
        ElasticNets x = run(FULL);
        go(x, "block 0 0 = NONE; channel 0 0 0 = NONE; input 0 = NONE; output 0 = NONE");
        go(x, "block -1 0 = argument; block 5 0 = argument");
        for (String wrong : WRONG_BLOCKS) {
            go(x, "channel " + wrong + " 0 0 = argument; channel 0 " + wrong + " 0 = argument");
            go(x, "input " + wrong + " = argument; output " + wrong + " = argument");
        }
    }

    private static void stateBeforeNone() {
        sentence("Methods throw what their comments name, .. and before they would answer NONE");
        run(FULL, "build; block 0 0 = state; channel 0 0 0 = state; input 0 = state; output 0 = state");
        run("build = 0; run 1000 0 = 1000; tick 0 = NONE; clear; tick 0 = state");
    }

    private static void throwingInAPartOfADesign() {
        sentence("a call that throws, .. changes nothing (a part of a design)");
        changeNothing(PART, "argument", "block 5 0", "block -1 0", "channel 0 2 0", "channel 2 0 0", "channel -1 0 0",
            "channel 1 -1 0", "input 2", "input -1", "output 2", "output -1", "buffers 3 1", "buffers -1 1", "buffers 1 4",
            "buffers 1 -1");
        changeNothing(PART, "state", "restart", "offer 0 5", "offer 9 5", "tick 0", "run 3 0", "run -1 0", "ticks", "turns 0",
            "got 0", "inside 0 0", "taken 0", "given 0", "value 0 0", "byClock 0 0", "rate 0", "rate 7");
    }

    private static void throwingInAFullDesign() {
        sentence("a call that throws, .. changes nothing (a full design)");
        changeNothing(FULL, "argument", "block 5 0", "channel 0 10 0", "channel 10 0 0", "input 10", "output -1",
            "buffers 20 1", "buffers 0 4");
    }

    private static void throwingInAMachine() {
        sentence("a call that throws, .. changes nothing (a machine)");
        changeNothing(MIDWAY, "state", "block 0 0", "block 5 0", "channel 0 0 0", "channel 9 9 0", "input 0", "input 9",
            "output 0", "output 9", "buffers 1 0", "buffers 0 3", "buffers 9 9", "build");
        changeNothing(MIDWAY, "argument", "offer 2 5", "offer -1 5", "run -1 0", "run 1001 0", "turns 2", "got 2",
            "inside 3 0", "inside 1 3", "inside 0 -1", "taken 2", "given 2", "value 2 0", "byClock 2 0", "rate 2");
        changeNothing(MIDWAY, "index", "value 0 99", "value 0 -1", "byClock 0 99", "byClock 0 1000", "byClock 1 -1");
    }

    private static void throwingAtTheEnd() {
        sentence("a call that throws, .. changes nothing (after 1000 ticks)");
        changeNothing(AT_THE_END, "argument", "run -1 0", "run 1001 0", "offer 2 1");
        changeNothing(AT_THE_END, "state", "build", "block 0 0");
        changeNothing(AT_THE_END, "index", "value 0 1000", "byClock 0 1000");
    }

    private static void noneChangesNothing() {
        sentence("or answers NONE, changes nothing.");
        changeNothing(FULL, "-1", "block 2 9", "channel 1 2 9", "channel 9 9 9", "input 0", "input 9", "output 0", "output 9");
        changeNothing(AT_THE_END, "-1", "tick 0", "tick 3", "tick -1");
    }

    /**
     * Each call alone, and all of them, leave an object that tells the same as one on which they were not made.
     * One object is not used for calls enough to tell all, so each way of asking has objects of its own.
     */
    private static void changeNothing(String before, String want, String... calls) {
        for (String call : calls) {
            same(call, answer(run(before), call), want);
        }
        for (Asked asked : Asked.values()) {
            String undisturbed = probed(run(before), asked);
            ElasticNets all = run(before);
            for (String call : calls) {
                ElasticNets x = run(before);
                answer(x, call);
                sameProbes("after " + call, probed(x, asked), undisturbed);
                answer(all, call);
            }
            sameProbes("after all of them", probed(all, asked), undisturbed);
        }
    }

    /** Only the first call that is answered otherwise is told. */
    private static void sameProbes(String when, String told, String undisturbed) {
        String[] have = told.split("; ");
        String[] want = undisturbed.split("; ");
        for (int i = 0; i < want.length; i++) {
            if (!have[i].equals(want[i])) {
                same("a call " + when, have[i], want[i]);
                return;
            }
        }
    }

    /** What an object answers to a long row of calls, that show its design and the state of its machine. */
    private static String probed(ElasticNets x, Asked asked) {
        StringBuilder told = new StringBuilder();
        if (answer(x, "ticks").equals("state")) {
            probeDesign(x, told);
            tell(x, told, "build");
        }
        if (asked == Asked.AFTER_RESTART) {
            tell(x, told, "restart");
        }
        if (asked != Asked.AT_ONCE) {
            probeTicks(x, told);
        }
        probeState(x, told);
        tell(x, told, "clear");
        tell(x, told, "ticks");
        return told.toString();
    }

    private static void tell(ElasticNets x, StringBuilder told, String call) {
        told.append(call).append(": ").append(answer(x, call)).append("; ");
    }

    private static void probeDesign(ElasticNets x, StringBuilder told) {
        String were = "";
        for (int channel = 0; channel < 20; channel++) {
            were = answer(x, "buffers " + channel + " 0");
            told.append(were).append(" buffers; ");
            if (!were.equals("argument")) {
                answer(x, "buffers " + channel + " " + were);
            }
        }
        // A full design is left as it is: a call that it refuses would hide what another one did.
        if (were.equals("argument")) {
            for (String call : new String[] {"block 1 4", "channel 0 0 9", "input 0", "output 1"}) {
                tell(x, told, call);
            }
        }
    }

    private static void probeTicks(ElasticNets x, StringBuilder told) {
        for (int round = 0; round < 12; round++) {
            for (int port = 0; port < 4; port++) {
                tell(x, told, "offer " + port + " " + (round * 10 + port));
            }
            tell(x, told, "tick " + round * 7 % 16);
        }
        tell(x, told, "run 20 0");
    }

    private static void probeState(ElasticNets x, StringBuilder told) {
        tell(x, told, "ticks");
        tell(x, told, "rate 0");
        tell(x, told, "rate 1");
        for (int block = 0; block <= 10; block++) {
            tell(x, told, "turns " + block);
            tell(x, told, "got " + block);
        }
        for (int channel = 0; channel <= 20; channel++) {
            for (int buffer = 0; buffer <= 3; buffer++) {
                tell(x, told, "inside " + channel + " " + buffer);
            }
        }
        for (int port = 0; port <= 4; port++) {
            tell(x, told, "taken " + port);
            tell(x, told, "given " + port);
            for (int k = 0; k < 8; k++) {
                tell(x, told, "value " + port + " " + k);
                tell(x, told, "byClock " + port + " " + k);
            }
        }
    }
}
