/** Promises 16 to 22 against a second abstract machine, on scripts by chance. */
public final class SolverReferenceTest {
    private SolverReferenceTest() {
    }

    public static void main(String[] args) {
        int scripts = args.length > 0 ? Integer.parseInt(args[0]) : 400;
        int from = args.length > 1 ? Integer.parseInt(args[1]) : 0;
        int compared = 0;
        int unreached = 0;
        ScriptTypes x = new ScriptTypes();
        for (int seed = from; seed < from + scripts; seed++) {
            RandomScripts random = new RandomScripts(seed);
            String text = seed % 6 == 1 ? random.ways() : random.script(5 + seed % 60);
            text = seed % 3 == 0 ? text : RandomScripts.compact(text);
            RefReader reader = new RefReader(text);
            if (text.length() <= 4000 && Kit.read(x, text) == 0 && reader.fault == 0) {
                compared++;
                int reached = compare(x, reader, text);
                unreached += reached < x.count(0) ? 1 : 0;
            }
        }
        System.out.println(compared + " scripts, " + unreached + " not reached everywhere");
        Kit.end("SolverReferenceTest");
    }

    private static int compare(ScriptTypes x, RefReader reader, String text) {
        RefSolver second = new RefSolver(reader);
        int reached = 0;
        if (text.length() % 2 == 0) {
            // what the machine has made means nothing to the abstract one
            x.begin();
            x.run(500);
        }
        int answer = x.solve();
        for (int k = 0; k < x.count(0); k++) {
            reached += second.states[k] == null ? 0 : 1;
            String got = tellInstruction(x, k);
            String want = second.tellInstruction(k);
            if (!got.equals(want)) {
                String[] g = got.split("\n");
                String[] w = want.split("\n");
                int i = 0;
                while (i + 1 < Math.min(g.length, w.length) && g[i].equals(w[i])) {
                    i++;
                }
                Kit.check(k + " " + Kit.instruction(x, k) + " of " + text + "\n" + Kit.code(x) + "\n", g[i], w[i]);
                return reached;
            }
        }
        for (int f = 0; f < x.count(1); f++) {
            for (int how = 0; how < 2; how++) {
                String got = x.result(f, how, 0) + " " + x.result(f, how, 1) + " " + x.result(f, how, 2) + " " + x.result(f, how, 3) + " "
                    + x.result(f, how, 4);
                Kit.check("result " + f + " " + how + " of " + text, got, second.tellResult(f, how));
            }
        }
        Kit.check("solve of " + text, answer + " " + x.count(12), reached + " " + reached);
        return reached;
    }

    private static String set(long flags, long number, long name, long lo, long hi) {
        return flags + " " + number + " " + name + " " + lo + " " + hi;
    }

    private static String tellInstruction(ScriptTypes x, int k) {
        if (x.height(k) < 0) {
            Kit.check("warns", x.warns(k), -1);
            Kit.check("link", x.link(k, 1, 5), 0);
            return "not reached";
        }
        StringBuilder t = new StringBuilder("warns " + x.warns(k));
        for (int i = -1; i < x.height(k); i++) {
            t.append(i < 0 ? " this " : "\n  set ");
            t.append(set(x.slot(k, i, 0), x.slot(k, i, 1), x.slot(k, i, 2), x.slot(k, i, 3), x.slot(k, i, 4)));
            if (i < 0) {
                t.append(" scope " + x.link(k, -1, 3) + " " + x.link(k, -1, 4));
            }
        }
        for (int l = 0; l < x.count(3); l++) {
            if (x.link(k, l, 5) == 0) {
                for (int n = 0; n <= x.count(2); n++) {
                    if (x.field(k, l, n, 0) != 0 || x.link(k, l, n % 5) != 0) {
                        t.append("\n  label " + l + " has something");
                    }
                }
                continue;
            }
            t.append("\n  label " + l + " " + x.link(k, l, 0) + " " + x.link(k, l, 1) + " " + x.link(k, l, 2) + " " + x.link(k, l, 3) + " "
                + x.link(k, l, 4));
            for (int n = 0; n <= x.count(2); n++) {
                t.append(" / " + set(x.field(k, l, n, 0), x.field(k, l, n, 1), x.field(k, l, n, 2), x.field(k, l, n, 3), x.field(k, l, n, 4)));
            }
        }
        return t.toString();
    }
}
