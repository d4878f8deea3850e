import java.util.Map;
import java.util.WeakHashMap;

/**
 * Runs of calls on new objects, written as text, each told under the sentence of the document that it
 * tests. A run is calls with ; or a new line between them; a call may have the answer that is due
 * behind a =, and must not throw if it has none. Numbers may be MIN, MAX or NONE; an exception is
 * written state, argument or index; 7@3 is what value answers for 7 that came in tick 3.
 */
abstract class Runs {
    /** What later calls on an object answer is free, so a test must not ask for it. */
    private static final int MOST_CALLS = 512;

    private static final Map<ElasticNets, Integer> CALLS = new WeakHashMap<>();
    private static int wrong = 0;
    private static int sentences = 0;
    private static String sentence = "";

    /** The sentence that the runs from here on test. */
    static void sentence(String text) {
        sentences++;
        sentence = text;
    }

    static void finish() {
        System.out.println(wrong == 0 ? sentences + " sentences hold" : wrong + " answers are not as due");
        if (wrong != 0) {
            System.exit(1);
        }
    }

    static ElasticNets run(String... calls) {
        ElasticNets x = new ElasticNets();
        go(x, calls);
        return x;
    }

    static void go(ElasticNets x, String... calls) {
        for (String call : String.join(";", calls).split("[;\n]")) {
            if (!call.isBlank()) {
                goOnce(x, call.trim());
            }
        }
    }

    private static void goOnce(ElasticNets x, String text) {
        String[] sides = text.split("=");
        String answered = answer(x, sides[0].trim());
        if (sides.length == 1) {
            boolean threw = answered.matches("[a-z]+") && !answered.matches("true|false|done");
            same(text, answered, threw ? "anything but this" : answered);
        } else {
            same(sides[0].trim(), answered, due(sides[1].trim()));
        }
    }

    static void same(String what, String answered, String want) {
        if (!answered.equals(want)) {
            wrong++;
            System.out.println("\"" + sentence + "\": " + what + " answered " + answered + ", due is " + want);
        }
    }

    private static String due(String text) {
        if (text.matches("[a-z]+")) {
            return text;
        }
        String[] sides = text.split("@");
        if (sides.length == 1) {
            return Integer.toString(number(text));
        }
        return Long.toString((Long.parseLong(sides[1]) << 32) + Integer.toUnsignedLong(number(sides[0])));
    }

    private static int number(String text) {
        switch (text) {
            case "MIN": return Integer.MIN_VALUE;
            case "MAX": return Integer.MAX_VALUE;
            case "NONE": return ElasticNets.NONE;
            default: return Integer.parseInt(text);
        }
    }

    /** A call's answer as text, or the first word of the exception that it throws. */
    static String answer(ElasticNets x, String call) {
        countCall(x, call);
        String[] words = call.split(" +");
        int[] a = new int[words.length - 1];
        for (int i = 0; i < a.length; i++) {
            a[i] = number(words[i + 1]);
        }
        try {
            return answer(x, words[0], a);
        } catch (RuntimeException e) {
            return nameOf(e);
        }
    }

    private static void countCall(ElasticNets x, String call) {
        if (CALLS.merge(x, 1, Integer::sum) == MOST_CALLS + 1) {
            wrong++;
            System.out.println("\"" + sentence + "\": " + call + " is asked behind the last call that has an answer");
        }
    }

    private static String nameOf(RuntimeException e) {
        switch (e.getClass().getName()) {
            case "java.lang.IllegalStateException": return "state";
            case "java.lang.IllegalArgumentException": return "argument";
            case "java.lang.IndexOutOfBoundsException": return "index";
            default: return e.getClass().getSimpleName().toLowerCase();
        }
    }

    private static String answer(ElasticNets x, String name, int[] a) {
        switch (name) {
            case "block": return "" + x.block(a[0], a[1]);
            case "channel": return "" + x.channel(a[0], a[1], a[2]);
            case "input": return "" + x.input(a[0]);
            case "output": return "" + x.output(a[0]);
            case "buffers": return "" + x.buffers(a[0], a[1]);
            case "build": return "" + x.build();
            case "clear": return "" + x.clear();
            case "restart":
                x.restart();
                return "done";
            case "offer": return "" + x.offer(a[0], a[1]);
            case "tick": return "" + x.tick(a[0]);
            case "run": return "" + x.run(a[0], a[1]);
            case "ticks": return "" + x.ticks();
            case "turns": return "" + x.turns(a[0]);
            case "got": return "" + x.got(a[0]);
            case "inside": return "" + x.inside(a[0], a[1]);
            case "taken": return "" + x.taken(a[0]);
            case "given": return "" + x.given(a[0]);
            case "value": return "" + x.value(a[0], a[1]);
            case "byClock": return "" + x.byClock(a[0], a[1]);
            case "rate": return "" + x.rate(a[0]);
            default: throw new AssertionError("no such call: " + name);
        }
    }

    /** The same call so often. */
    static String often(int times, String call) {
        return (call + ";").repeat(times);
    }

    /** The same call so often, with the numbers from 0 on as answers that are due, then with NONE. */
    static String upTo(int most, String call) {
        StringBuilder calls = new StringBuilder();
        for (int i = 0; i < most; i++) {
            calls.append(call).append(" = ").append(i).append(";");
        }
        return calls.append(call).append(" = NONE;").toString();
    }
}
