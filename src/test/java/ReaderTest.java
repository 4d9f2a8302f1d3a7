/** Promises 4 to 7 against a second reader, on scripts by chance, whole ones and broken ones. */
public final class ReaderTest {
    private ReaderTest() {
    }

    public static void main(String[] args) {
        int scripts = args.length > 0 ? Integer.parseInt(args[0]) : 1500;
        int[] faults = new int[6];
        for (int seed = 0; seed < scripts; seed++) {
            RandomScripts random = new RandomScripts(seed);
            String script = seed % 5 < 2 ? random.ways() : random.script(4 + seed % 70);
            for (int i = 0; i < 4; i++) {
                String text = i == 0 ? script : random.broken(script);
                if (text.length() <= 4000) {
                    faults[compare(new ScriptTypes(), text)]++;
                }
            }
        }
        System.out.println("faults 0 to 5: " + java.util.Arrays.toString(faults));
        Kit.end("ReaderTest");
    }

    private static int compare(ScriptTypes x, String text) {
        RefReader second = new RefReader(text);
        int fault = Kit.read(x, text);
        Kit.check("fault of " + text, fault, second.fault);
        if (fault != 0 || second.fault != 0) {
            Kit.check("instructions with a fault", x.count(0), 0);
            return fault & 7;
        }
        Kit.check("counts of " + text, x.count(0) + " " + x.count(1) + " " + x.count(2) + " " + x.count(3) + " " + x.count(4),
            second.code.size() + " " + second.functions.size() + " " + second.names.size() + " " + second.labels() + " " + second.sites);
        for (int k = 0; k < Math.min(x.count(0), second.code.size()); k++) {
            int[] i = second.code.get(k);
            String got = x.instruction(k, 0) + " " + x.instruction(k, 1) + " " + x.instruction(k, 2) + " " + x.instruction(k, 3);
            String want = i[0] + " " + i[1] + " " + i[2] + " " + second.owner.get(k);
            if (!got.equals(want)) {
                Kit.check("instruction " + k + " of " + text, got, want);
                break;
            }
        }
        for (String name : second.names.keySet()) {
            Kit.check("name", Kit.string(x, second.names.get(name)), name);
        }
        return 0;
    }
}
