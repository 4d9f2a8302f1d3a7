/** Promises 8 to 15 against a second machine, on scripts by chance. */
public final class MachineReferenceTest {
    private MachineReferenceTest() {
    }

    public static void main(String[] args) {
        int scripts = args.length > 0 ? Integer.parseInt(args[0]) : 1500;
        int[] ends = new int[5];
        ScriptTypes x = new ScriptTypes();
        for (int seed = 0; seed < scripts; seed++) {
            RandomScripts random = new RandomScripts(seed);
            String text = seed % 4 == 1 ? random.ways() : random.script(5 + seed % 60);
            text = seed % 3 == 0 ? text : RandomScripts.compact(text);
            RefReader second = new RefReader(text);
            if (text.length() <= 4000 && Kit.read(x, text) == 0 && second.fault == 0) {
                ends[compare(x, second, text, seed)]++;
            }
        }
        System.out.println("ends: " + java.util.Arrays.toString(ends));
        Kit.end("MachineReferenceTest");
    }

    private static int compare(ScriptTypes x, RefReader reader, String text, int seed) {
        RefMachine second = new RefMachine(reader);
        x.begin();
        int n = 1;
        for (int i = 0; i < 12 && x.count(6) == 1; i++) {
            n = Math.min(2000, 1 + (n * 3 + seed) % 400);
            int want = second.run(n);
            int got = x.run(n);
            String all = dump(x);
            if (want != got || !all.equals(second.dump())) {
                Kit.check("run " + n + " of " + text, got + "\n" + all, want + "\n" + second.dump());
                return x.count(6);
            }
        }
        return x.count(6);
    }

    private static String tell(int kind, int datum) {
        return kind + ":" + datum;
    }

    static String dump(ScriptTypes x) {
        StringBuilder s = new StringBuilder();
        for (int what = 6; what <= 11; what++) {
            s.append(x.count(what)).append(what < 11 ? " " : "\n");
        }
        for (int i = 0; i < x.count(11); i++) {
            s.append("frame " + x.frame(i, 0) + " " + x.frame(i, 1) + " " + x.frame(i, 2) + " " + x.frame(i, 3) + " " + x.frame(i, 4));
            for (int k = -1; k < x.frame(i, 2); k++) {
                s.append(" " + tell(x.value(i, k, 0), x.value(i, k, 1)));
            }
            s.append("\n");
        }
        for (int o = 0; o < x.count(8); o++) {
            s.append("object " + x.object(o, 0) + " " + x.object(o, 1) + " " + x.object(o, 2) + " " + x.object(o, 3) + " " + x.object(o, 4));
            for (int k = 0; k < x.object(o, 3); k++) {
                s.append(" " + x.property(o, k, 0) + "=" + tell(x.property(o, k, 1), x.property(o, k, 2)));
            }
            s.append("\n");
        }
        for (int i = 0; i < x.count(10); i++) {
            s.append("line " + x.printed(i, -1) + "\n");
        }
        for (int i = 0; i < x.count(9); i++) {
            s.append("string " + Kit.string(x, i) + "\n");
        }
        s.append("thrown " + tell(x.uncaught(0), x.uncaught(1)));
        return s.toString();
    }
}
