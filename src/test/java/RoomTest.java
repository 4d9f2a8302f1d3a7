import com.sun.management.ThreadMXBean;
import java.lang.management.ManagementFactory;

/** What an object and a run of its calls make: rows once, long enough for every script, and nothing that grows. */
public final class RoomTest {
    private static final ThreadMXBean THREADS = (ThreadMXBean) ManagementFactory.getThreadMXBean();
    private static final long MOST_OF_OBJECT = 8L * 2200000;
    private static final long MOST_OF_RUN = 200000;

    private RoomTest() {
    }

    public static void main(String[] args) {
        newObject();
        growingStates();
        growingStacks();
        faults();
        heights();
        Kit.end("RoomTest");
    }

    private static long bytes() {
        return THREADS.getThreadAllocatedBytes(Thread.currentThread().getId());
    }

    private static void small(String what, long bytes, long most) {
        if (bytes > most) {
            Kit.check("bytes that " + what + " makes", bytes, "at most " + most);
        }
    }

    private static void newObject() {
        long before = bytes();
        ScriptTypes x = new ScriptTypes();
        small("an object", bytes() - before, MOST_OF_OBJECT);
        Kit.check("a new object has no script", x.count(0), 0);
    }

    // The words of a tape with this text, made ahead of the run that is measured.
    private static int[] words(String text) {
        int[] words = new int[(text.length() + 19) / 20 * 5];
        for (int i = 0; i < text.length(); i++) {
            words[i / 4] |= (text.charAt(i) & 255) << 24 - i % 4 * 8;
        }
        return words;
    }

    // Reads the script of these words; how many calls that took.
    private static int read(ScriptTypes x, int[] words, int length) {
        int calls = words.length / 5;
        for (int i = 0; i < words.length; i += 5) {
            x.feed(words[i], words[i + 1], words[i + 2], words[i + 3], words[i + 4]);
        }
        if (length < 4 * words.length) {
            x.back(4 * words.length - length);
            calls++;
        }
        x.read();
        return calls + 1;
    }

    // Each wants more room for its states than the one before, nearly as much as any script can.
    private static void growingStates() {
        int[] ones = {138, 140, 141, 142, 143, 144, 145, 146, 147, 148, 149, 150, 151, 152, 153};
        int[][] words = new int[ones.length][];
        int[] lengths = new int[ones.length];
        int[] answers = new int[ones.length];
        for (int i = 0; i < ones.length; i++) {
            String text = "1(1,1,1,1,1,1,1,".repeat(19) + "1" + "+1".repeat(ones[i] - 1) + ")".repeat(19);
            words[i] = words(text);
            lengths[i] = text.length();
        }
        ScriptTypes x = new ScriptTypes();
        int calls = 0;
        long before = bytes();
        for (int i = 0; i < ones.length; i++) {
            calls += read(x, words[i], lengths[i]) + 1;
            answers[i] = x.solve();
        }
        small("a run of growing states", bytes() - before, MOST_OF_RUN);
        Kit.check("calls of the run", calls, 512);
        for (int i = 0; i < ones.length; i++) {
            Kit.check("solve of script " + i, answers[i], 2 * ones[i] + 171);
        }
        Kit.check("count(0) of the last", x.count(0), 498);
        Kit.check("its highest stack", x.height(498 - 23), 173);
        Kit.check("the first call of its that is done", x.warns(498 - 22), 1 + 4);
    }

    // Each has a higher stack than the one before, when it runs and when it is solved.
    private static void growingStacks() {
        int[][] words = new int[17][];
        int[] lengths = new int[words.length];
        int[] answers = new int[words.length];
        for (int i = 0; i < words.length; i++) {
            String text = "x=function(){return x};print(1,1,1,1,1,1,1,x" + "()".repeat(10 * i + 10) + "===x)";
            words[i] = words(text);
            lengths[i] = text.length();
        }
        ScriptTypes x = new ScriptTypes();
        long before = bytes();
        for (int i = 0; i < words.length; i++) {
            read(x, words[i], lengths[i]);
            x.begin();
            x.run(2000);
            answers[i] = x.solve();
        }
        small("a run of growing stacks", bytes() - before, MOST_OF_RUN);
        for (int i = 0; i < words.length; i++) {
            Kit.check("solve of stack " + i, answers[i], 20 * i + 41);
        }
        Kit.check("the last one's end", Kit.output(x), "1/ended");
        Kit.check("its highest stack", x.height(12 + 170 + 1), 9 + 171);
    }

    private static void faults() {
        int[] words = words("a b");
        ScriptTypes x = new ScriptTypes();
        long before = bytes();
        for (int i = 0; i < 170; i++) {
            read(x, words, 3);
        }
        small("a run of faults", bytes() - before, MOST_OF_RUN);
    }

    // No stack is higher than the instructions ahead are many, and one more: on this the rows' lengths rest.
    private static void heights() {
        ScriptTypes x = new ScriptTypes();
        for (int seed = 0; seed < 1500; seed++) {
            RandomScripts random = new RandomScripts(seed + 90000);
            String text = seed % 4 == 1 ? random.ways() : random.script(5 + seed % 60);
            if (text.length() <= 4000) {
                lookAtHeights(x, text);
            }
        }
        lookAtHeights(x, "o={k:1};" + "o.k+=".repeat(19) + "1");
        lookAtHeights(x, "o={k:{}};" + "o.k[o.k+=".repeat(9) + "o.k++" + "]".repeat(9));
    }

    private static void lookAtHeights(ScriptTypes x, String text) {
        if (Kit.read(x, text) != 0) {
            return;
        }
        x.solve();
        for (int k = 0; k < x.count(0); k++) {
            if (x.height(k) > k + 1) {
                Kit.check("height at " + k + " of " + text, x.height(k), "at most " + (k + 1));
            }
        }
    }
}
