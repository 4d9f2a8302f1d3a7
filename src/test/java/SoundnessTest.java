import java.util.Arrays;

/** What the machine does lies in what the abstract machine says: on scripts by chance, at each step. */
public final class SoundnessTest {
    private SoundnessTest() {
    }

    public static void main(String[] args) {
        int scripts = args.length > 0 ? Integer.parseInt(args[0]) : 3000;
        ScriptTypes x = new ScriptTypes();
        int steps = 0;
        for (int seed = 0; seed < scripts; seed++) {
            RandomScripts random = new RandomScripts(seed + 50000);
            String text = seed % 4 == 1 ? random.ways() : random.script(5 + seed % 60);
            text = seed % 2 == 0 ? text : RandomScripts.compact(text);
            if (text.length() <= 4000 && Kit.read(x, text) == 0) {
                steps += follow(x, text);
            }
        }
        System.out.println(steps + " steps");
        Kit.end("SoundnessTest");
    }

    private static int follow(ScriptTypes x, String text) {
        x.solve();
        x.begin();
        int steps = 0;
        while (x.count(6) == 1 && steps < 400) {
            String fault = look(x);
            if (fault != null) {
                Kit.check("step " + steps + " of " + text + "\n" + Kit.code(x) + "\n", fault, "");
                return steps;
            }
            x.run(1);
            steps++;
        }
        return steps;
    }

    // What of the latest frame, and of all objects, is not in the state there; null if nothing.
    private static String look(ScriptTypes x) {
        int k = x.frame(0, 1);
        if (x.height(k) != x.frame(0, 2)) {
            return "height at " + k;
        }
        for (int i = -1; i < x.height(k); i++) {
            int kind = x.value(0, i, 0);
            if (kind != 8 && !isIn(x, kind, x.value(0, i, 1), x.slot(k, i, 0), x.slot(k, i, 1), x.slot(k, i, 2), x.slot(k, i, 3), x.slot(k, i, 4))) {
                return "set " + i + " at " + k + " has no " + Kit.value(x, kind, x.value(0, i, 1)) + ": " + Kit.slot(x, k, i);
            }
        }
        int scope = x.frame(0, 3);
        if (scope >= 0 && !hasLabel(x.object(scope, 0), x.link(k, -1, 3), x.link(k, -1, 4))) {
            return "scope at " + k;
        }
        for (int o = 0; o < x.count(8); o++) {
            String fault = lookAtObject(x, k, o);
            if (fault != null) {
                return fault;
            }
        }
        return null;
    }

    private static String lookAtObject(ScriptTypes x, int k, int o) {
        int l = x.object(o, 0);
        if (x.link(k, l, 5) != 1) {
            return "label " + l + " is not there at " + k;
        }
        int proto = x.object(o, 1);
        int link = x.object(o, 2);
        if (proto < 0 ? x.link(k, l, 2) != 1 : !hasLabel(x.object(proto, 0), x.link(k, l, 0), x.link(k, l, 1))) {
            return "proto of " + o + " at " + k;
        }
        if (link >= 0 && !hasLabel(x.object(link, 0), x.link(k, l, 3), x.link(k, l, 4))) {
            return "link of " + o + " at " + k;
        }
        boolean[] has = new boolean[x.count(2)];
        int fields = x.count(2);
        for (int p = 0; p < x.object(o, 3); p++) {
            int name = x.property(o, p, 0);
            int n = Math.min(name, fields);
            if (name < fields) {
                has[name] = true;
            }
            if (!isIn(x, x.property(o, p, 1), x.property(o, p, 2), x.field(k, l, n, 0), x.field(k, l, n, 1), x.field(k, l, n, 2), x.field(k, l, n, 3),
                x.field(k, l, n, 4))) {
                return "property " + Kit.string(x, name) + " of " + o + ", label " + l + ", at " + k + ": " + Kit.field(x, k, l, n);
            }
        }
        for (int n = 0; n < fields; n++) {
            if (!has[n] && (x.field(k, l, n, 0) & 512) == 0) {
                return "property " + Kit.string(x, n) + " of " + o + " can't be absent at " + k + " " + Arrays.toString(has);
            }
        }
        return null;
    }

    private static boolean hasLabel(int l, long lo, long hi) {
        return ((l < 64 ? lo >>> l : hi >>> l - 64) & 1) != 0;
    }

    private static boolean isIn(ScriptTypes x, int kind, int datum, long flags, long number, long name, long lo, long hi) {
        if (kind <= 4) {
            return (flags >> kind & 1) != 0;
        }
        if (kind == 5) {
            return (flags & 64) != 0 || (flags & 32) != 0 && number == datum;
        }
        if (kind == 6) {
            return (flags & 256) != 0 || (flags & 128) != 0 && name == datum;
        }
        return hasLabel(x.object(datum, 0), lo, hi);
    }
}
