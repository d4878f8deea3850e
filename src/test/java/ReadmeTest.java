import java.io.IOException;
import java.nio.file.Files;
import java.nio.file.Path;

/** The example that README.md shows stands here too, line by line, so that it can't grow old there. */
public final class ReadmeTest {
    private static int wrong = 0;

    public static void main(String[] args) throws IOException {
        // example
        ElasticNets nets = new ElasticNets();
        int sum = nets.block(0, 0);               // operation 0 adds its inputs up, beginning with 0
        int in = nets.input(sum);
        int back = nets.channel(sum, sum, 100);   // a register with 100 at first
        int out = nets.output(sum);
        nets.buffers(back, 1);                    // one empty buffer more behind the register
        int buffers = nets.build();               // 2

        nets.offer(in, 5);
        int first = nets.tick(0);                 // 0: the register's token is on its way
        int second = nets.tick(0);                // 17: output 0 got (1), input 0 was taken (16)
        long given = nets.value(out, 0);          // (1L << 32) + 105: in tick 1, the value 105
        int byClock = nets.byClock(out, 0);       // 105
        int tokens = nets.rate(0);                // 1 ..
        int length = nets.rate(1);                // .. of 2: a turn every two ticks
        // end of the example
        due("build", buffers, 2);
        due("the first tick", first, 0);
        due("the second tick", second, 17);
        due("value", given, (1L << 32) + 105);
        due("byClock", byClock, 105);
        due("rate(0)", tokens, 1);
        due("rate(1)", length, 2);
        sameLines();
        System.out.println(wrong == 0 ? "the example is as due" : wrong + " faults");
        if (wrong != 0) {
            System.exit(1);
        }
    }

    private static void due(String what, long answered, long want) {
        if (answered != want) {
            fault(what + " answered " + answered + ", due is " + want);
        }
    }

    private static void fault(String text) {
        wrong++;
        System.out.println(text);
    }

    private static void sameLines() throws IOException {
        String here = between("src/test/java/ReadmeTest.java", "        // example\n", "        // end of the example\n");
        String there = between("README.md", "```java\n", "```\n");
        if (there.isEmpty() || !here.replaceAll("(?m)^        ", "").equals(there)) {
            fault("README.md shows another example than this test");
        }
    }

    private static String between(String file, String start, String end) throws IOException {
        String text = Files.readString(Path.of(file));
        int from = text.indexOf(start) + start.length();
        int to = text.indexOf(end, from);
        return from < start.length() || to < 0 ? "" : text.substring(from, to);
    }
}
