import java.util.ArrayList;
import java.util.List;
import java.util.function.Consumer;
import java.util.function.Function;

/** What binds every call: refused calls change nothing, which exception goes first, and that 512 calls are answered. */
public final class RefusedCallsTest {
    private static final int[] FAR = {Integer.MIN_VALUE, Integer.MAX_VALUE, -2, 100000};

    private RefusedCallsTest() {
    }

    public static void main(String[] args) {
        changeNothing();
        firstException();
        bounds();
        lifetimes();
        Kit.end("RefusedCallsTest");
    }

    /** A way to a state of an object. */
    private static final class Setting {
        final String name;
        final Consumer<ScriptTypes> way;

        Setting(String name, Consumer<ScriptTypes> way) {
            this.name = name;
            this.way = way;
        }

        ScriptTypes made() {
            ScriptTypes x = new ScriptTypes();
            way.accept(x);
            return x;
        }
    }

    private static final String SCRIPT = "function f(a){for(k in a)try{print(k+'!');if(k=='q')throw k}finally{b=[k]}}o={p:1,q:2};print('s'+1);f(o)";

    private static List<Setting> settings() {
        List<Setting> all = new ArrayList<>();
        all.add(new Setting("a new object", x -> { }));
        all.add(new Setting("a tape", x -> Kit.feed(x, "print('x'+5)//ab")));
        all.add(new Setting("a full tape", x -> {
            for (int i = 0; i < 200; i++) {
                x.feed(0x20203b20, 0x20202020, 0x20202020, 0x20202020, 0x0a202020);
            }
        }));
        all.add(new Setting("a fault", x -> {
            Kit.read(x, "a b");
            Kit.feed(x, "c;d");
        }));
        all.add(new Setting("a script", x -> {
            Kit.read(x, SCRIPT);
            Kit.feed(x, "print(1)");
        }));
        all.add(new Setting("a machine that begins", x -> {
            Kit.read(x, SCRIPT);
            x.begin();
        }));
        all.add(new Setting("a machine that goes on", x -> {
            Kit.read(x, SCRIPT);
            x.begin();
            x.run(55);
            Kit.feed(x, "print(1)");
        }));
        all.add(new Setting("a machine that ended", x -> {
            Kit.read(x, "print('s'+1)");
            x.begin();
            x.run(2000);
        }));
        all.add(new Setting("a machine that is UNCAUGHT", x -> {
            Kit.read(x, SCRIPT);
            x.begin();
            x.run(2000);
        }));
        all.add(new Setting("a machine without room", x -> {
            Kit.read(x, "function f(n){for(;;)[n+'']}f(5)");
            x.begin();
            x.run(2000);
            x.run(2000);
        }));
        all.add(new Setting("a solved script", x -> {
            Kit.read(x, SCRIPT);
            x.solve();
            Kit.feed(x, "e");
        }));
        all.add(new Setting("a solved script whose machine goes on", x -> {
            Kit.read(x, SCRIPT);
            x.begin();
            x.solve();
            x.run(55);
        }));
        return all;
    }

    private static Object begun(ScriptTypes x) {
        x.begin();
        return "begun";
    }

    private static String outcome(Kit.Call call) {
        return Kit.outcome(call);
    }

    /** Calls of one method: what each answers that is refused in the state. */
    private static final class Refusals {
        final String method;
        final Function<ScriptTypes, String> calls;

        Refusals(String method, Function<ScriptTypes, String> calls) {
            this.method = method;
            this.calls = calls;
        }
    }

    // Each answers with one word a call: the exception's name, -1, or 0 for those that answer 0 for what there is not.
    private static List<Refusals> refusals() {
        List<Refusals> all = new ArrayList<>();
        all.add(new Refusals("feed", x -> x.count(5) <= 3980 ? "" : "" + x.feed(1, 2, 3, 4, 5)));
        all.add(new Refusals("back", x -> x.back(-1) + " " + x.back(x.count(5) + 1) + " " + x.back(Integer.MIN_VALUE) + " " + x.back(Integer.MAX_VALUE)));
        all.add(new Refusals("count", x -> x.count(-1) + " " + x.count(13) + " " + x.count(Integer.MIN_VALUE) + " " + x.count(Integer.MAX_VALUE)));
        all.add(new Refusals("letter", x -> x.letter(-1, 0) + " " + x.letter(Math.max(x.count(2), x.count(9)), 0) + " " + x.letter(0, 6) + " " + x.letter(0, -1) + " " + x.letter(30, 0)));
        all.add(new Refusals("instruction", x -> x.instruction(-1, 0) + " " + x.instruction(x.count(0), 0) + " " + x.instruction(0, 4) + " " + x.instruction(0, -1)));
        all.add(new Refusals("begin", x -> x.count(0) > 0 ? "" : outcome(() -> begun(x))));
        all.add(new Refusals("run", x -> outcome(() -> x.run(-1)) + " " + outcome(() -> x.run(2001)) + " " + outcome(() -> x.run(Integer.MIN_VALUE)) + " "
            + outcome(() -> x.run(Integer.MAX_VALUE)) + (x.count(6) == 1 ? "" : " " + outcome(() -> x.run(0)) + " " + outcome(() -> x.run(1)) + " " + outcome(() -> x.run(2000)))));
        all.add(new Refusals("frame", x -> x.frame(-1, 0) + " " + x.frame(x.count(11), 0) + " " + x.frame(0, 5) + " " + x.frame(0, -1)));
        all.add(new Refusals("value", x -> x.value(-1, 0, 0) + " " + x.value(x.count(11), 0, 0) + " " + x.value(0, -2, 0) + " " + x.value(0, Math.max(0, x.frame(0, 2)), 0) + " "
            + x.value(0, -1, 2) + " " + x.value(0, -1, -1) + " " + x.value(x.count(11), -1, 0)));
        all.add(new Refusals("object", x -> x.object(-1, 0) + " " + x.object(x.count(8), 0) + " " + x.object(0, 5) + " " + x.object(0, -1)));
        all.add(new Refusals("property", x -> x.property(-1, 0, 0) + " " + x.property(x.count(8), 0, 0) + " " + x.property(0, -1, 0) + " " + x.property(0, 999, 0) + " "
            + x.property(0, 0, 3) + " " + x.property(0, 0, -1)));
        all.add(new Refusals("printed", x -> x.printed(-1, 0) + " " + x.printed(x.count(10), 0) + " " + x.printed(x.count(10), -1) + " " + x.printed(0, 99) + " " + x.printed(0, -2)));
        all.add(new Refusals("uncaught", x -> x.uncaught(2) + " " + x.uncaught(-1) + (x.count(6) == 3 ? "" : " " + x.uncaught(0) + " " + x.uncaught(1))));
        all.add(new Refusals("solve", x -> x.count(0) > 0 ? "" : outcome(x::solve)));
        all.add(new Refusals("height", x -> x.height(-1) + " " + x.height(x.count(0)) + (x.count(12) >= 0 ? "" : " " + x.height(0))));
        all.add(new Refusals("warns", x -> x.warns(-1) + " " + x.warns(x.count(0)) + (x.count(12) >= 0 ? "" : " " + x.warns(0))));
        all.add(new Refusals("slot", x -> x.slot(-1, -1, 0) + " " + x.slot(x.count(0), -1, 0) + " " + x.slot(0, -2, 0) + " " + x.slot(0, 99, 0) + " " + x.slot(0, -1, 5)
            + (x.count(12) >= 0 ? "" : " " + x.slot(0, -1, 0))));
        all.add(new Refusals("field", x -> x.field(-1, 0, 0, 0) + " " + x.field(x.count(0), 0, 0, 0) + " " + x.field(0, -1, 0, 0) + " " + x.field(0, x.count(3), 0, 0) + " "
            + x.field(0, 0, -1, 0) + " " + x.field(0, 0, x.count(2) + 1, 0) + " " + x.field(0, 0, 0, 5) + (x.count(12) >= 0 ? "" : " " + x.field(0, 0, 0, 0))));
        all.add(new Refusals("link", x -> x.link(-1, 0, 5) + " " + x.link(x.count(0), 0, 5) + " " + x.link(0, -2, 5) + " " + x.link(0, x.count(3), 5) + " " + x.link(0, 0, 6) + " "
            + x.link(0, 0, -1) + (x.count(12) >= 0 ? "" : " " + x.link(0, 0, 5))));
        all.add(new Refusals("result", x -> x.result(-1, 0, 0) + " " + x.result(x.count(1), 0, 0) + " " + x.result(0, 2, 0) + " " + x.result(0, -1, 0) + " " + x.result(0, 0, 5)
            + (x.count(12) >= 0 ? "" : " " + x.result(0, 0, 0))));
        return all;
    }

    private static void add(StringBuilder s, Object word) {
        s.append(word).append(' ');
    }

    // What can be looked at, a part at a time, so that no object has more than its 512 calls.
    private static final int PARTS = 13;

    private static String look(ScriptTypes x, int part) {
        StringBuilder s = new StringBuilder();
        switch (part) {
            case 0: lookAtCounts(x, s); break;
            case 1: lookAtCode(x, s); break;
            case 2: lookAtFrames(x, s); break;
            case 3: lookAtObjects(x, s); break;
            case 4: lookAtProperties(x, s); break;
            case 5: lookAtLines(x, s); break;
            case 6: lookAtHeights(x, s); break;
            case 7: lookAtSets(x, s); break;
            case 8: lookAtLinks(x, s); break;
            case 9: goOn(x, s); break;
            case 10: beginAnew(x, s); break;
            case 11: readOn(x, s); break;
            default: solveOn(x, s); break;
        }
        return s.toString();
    }

    private static void lookAtCounts(ScriptTypes x, StringBuilder s) {
        for (int what = 0; what <= 12; what++) {
            add(s, x.count(what));
        }
        int strings = Math.max(x.count(2), x.count(9));
        for (int n = 31; n < strings && n < 60; n++) {
            add(s, Kit.string(x, n));
        }
    }

    private static void lookAtCode(ScriptTypes x, StringBuilder s) {
        for (int k = 0; k < 75; k++) {
            add(s, x.instruction(k, 0) + "," + x.instruction(k, 1) + "," + x.instruction(k, 2) + "," + x.instruction(k, 3));
        }
    }

    private static void lookAtFrames(ScriptTypes x, StringBuilder s) {
        for (int i = 0; i < 4; i++) {
            for (int what = 0; what < 5; what++) {
                add(s, x.frame(i, what));
            }
            for (int k = -1; k < 10; k++) {
                add(s, x.value(i, k, 0) + "," + x.value(i, k, 1));
            }
        }
    }

    private static void lookAtObjects(ScriptTypes x, StringBuilder s) {
        for (int o = 0; o < 40; o++) {
            for (int what = 0; what < 5; what++) {
                add(s, x.object(o, what));
            }
        }
    }

    private static void lookAtProperties(ScriptTypes x, StringBuilder s) {
        for (int o : new int[] {0, 3, 23, 24, 25, 26, 27, 28, 29, 30, 31}) {
            for (int k = 0; k < (o == 0 ? 15 : 3); k++) {
                add(s, x.property(o, k, 0) + "," + x.property(o, k, 1) + "," + x.property(o, k, 2));
            }
        }
    }

    private static void lookAtLines(ScriptTypes x, StringBuilder s) {
        for (int i = 0; i < 8; i++) {
            add(s, x.printed(i, -1));
            add(s, Kit.printedLine(x, i));
        }
        add(s, x.uncaught(0) + "," + x.uncaught(1));
    }

    private static void lookAtHeights(ScriptTypes x, StringBuilder s) {
        for (int k = 0; k < 80; k++) {
            add(s, x.height(k) + "," + x.warns(k));
        }
        for (int f = 0; f < 3; f++) {
            add(s, x.result(f, 0, 0) + "," + x.result(f, 0, 3) + "," + x.result(f, 1, 0) + "," + x.result(f, 1, 2) + "," + x.result(f, 1, 3));
        }
    }

    private static void lookAtSets(ScriptTypes x, StringBuilder s) {
        for (int k = 0; k < 60; k += 3) {
            for (int i = -1; i < 3; i++) {
                add(s, x.slot(k, i, 0) + "," + x.slot(k, i, 1) + "," + x.slot(k, i, 2) + "," + x.slot(k, i, 3) + "," + x.slot(k, i, 4));
            }
        }
    }

    private static void lookAtLinks(ScriptTypes x, StringBuilder s) {
        for (int l = -1; l < 45; l++) {
            for (int what = 0; what < 6; what++) {
                add(s, x.link(20, l, what));
            }
            add(s, x.field(20, l, 0, 0) + "," + x.field(20, l, 31, 0) + "," + x.field(20, l, 1, 3));
        }
    }

    private static void goOn(ScriptTypes x, StringBuilder s) {
        add(s, Kit.outcome(() -> x.run(7)));
        lookAtCounts(x, s);
        add(s, Kit.outcome(() -> x.run(2000)));
        lookAtLines(x, s);
        lookAtFrames(x, s);
    }

    private static void beginAnew(ScriptTypes x, StringBuilder s) {
        add(s, Kit.outcome(() -> begun(x)));
        add(s, Kit.outcome(() -> x.run(2000)));
        lookAtCounts(x, s);
        lookAtLines(x, s);
    }

    private static void readOn(ScriptTypes x, StringBuilder s) {
        add(s, x.back(1));
        add(s, x.feed(0x20202020, 0x20202020, 0x20202020, 0x20202020, 0x2020203b));
        add(s, x.read());
        lookAtCounts(x, s);
        add(s, Kit.outcome(() -> begun(x)));
        add(s, Kit.outcome(() -> x.run(2000)));
        lookAtLines(x, s);
    }

    private static void solveOn(ScriptTypes x, StringBuilder s) {
        add(s, Kit.outcome(x::solve));
        lookAtHeights(x, s);
    }

    private static void changeNothing() {
        for (Setting setting : settings()) {
            String[] before = new String[PARTS];
            for (int part = 0; part < PARTS; part++) {
                before[part] = look(setting.made(), part);
            }
            for (Refusals refusals : refusals()) {
                refused(setting, refusals, before);
            }
        }
    }

    private static void refused(Setting setting, Refusals refusals, String[] before) {
        Kit.sentence("What throws, or answers NONE for what was asked, changes nothing: " + refusals.method);
        for (int part = 0; part < PARTS; part++) {
            ScriptTypes x = setting.made();
            String answers = refusals.calls.apply(x);
            if (answers.isEmpty()) {
                return;
            }
            for (String answer : answers.split(" ")) {
                boolean none = answer.equals("-1") || answer.startsWith("Illegal") || answer.equals("0") && "slot field link result".contains(refusals.method);
                Kit.check(refusals.method + " is refused, with " + setting.name + ": " + answers, none, true);
            }
            Kit.check(refusals.method + " changes nothing of part " + part + ", with " + setting.name, look(x, part), before[part]);
        }
    }

    private static void firstException() {
        Kit.sentence("Of several exceptions that one goes which the call names first.");
        for (Setting setting : settings()) {
            ScriptTypes x = setting.made();
            boolean runs = x.count(6) == 1;
            for (int n : new int[] {-1, 2001, Integer.MIN_VALUE, Integer.MAX_VALUE, -2000, 4000}) {
                Kit.check("run(" + n + ") with " + setting.name, Kit.outcome(() -> x.run(n)), "IllegalArgumentException");
            }
            if (!runs) {
                for (int n : new int[] {0, 1, 1999, 2000}) {
                    Kit.check("run(" + n + ") with " + setting.name, Kit.outcome(() -> x.run(n)), "IllegalStateException");
                }
            }
            boolean script = x.count(0) > 0;
            Kit.check("solve with " + setting.name, Kit.outcome(x::solve).equals("IllegalStateException"), !script);
            Kit.check("begin with " + setting.name, Kit.outcome(() -> begun(x)), script ? "begun" : "IllegalStateException");
        }
    }

    // Both sides of the bound of each argument, for an object that has all that can be asked for.
    private static void bounds() {
        Kit.sentence("IllegalArgumentException: n is not 0 .. 2000.");
        ScriptTypes loop = Kit.script("for(;;);");
        loop.begin();
        Kit.check("both sides of n", outcome(() -> loop.run(-1)) + " " + outcome(() -> loop.run(0)) + " " + outcome(() -> loop.run(1)) + " " + outcome(() -> loop.run(2000)) + " "
            + outcome(() -> loop.run(2001)) + " " + loop.count(7), "IllegalArgumentException 0 1 2000 IllegalArgumentException 2001");
        Kit.sentence("NONE if there is none such");
        ScriptTypes x = new ScriptTypes();
        Kit.read(x, SCRIPT);
        x.solve();
        x.begin();
        while (x.count(11) < 2 || x.frame(0, 4) == 0) {
            x.run(1);
        }
        int frames = x.count(11);
        Kit.check("frame", (x.frame(frames - 1, 0) >= 0) + " " + x.frame(frames, 0) + " " + x.frame(0, 4) + " " + x.frame(0, 5), "true -1 1 -1");
        int values = x.frame(0, 2);
        Kit.check("value", values + " " + x.value(0, values - 1, 0) + " " + x.value(0, values, 0) + " " + x.value(0, -1, 0) + " " + x.value(0, -2, 0) + " " + x.value(0, 0, 1) + " "
            + x.value(0, 0, 2) + " " + x.value(1, 0, 0) + " " + x.value(1, -1, 0) + " " + x.value(2, -1, 0), "1 8 -1 0 -1 1 -1 -1 0 -1");
        int objects = x.count(8);
        Kit.check("object", (x.object(objects - 1, 0) >= 0) + " " + x.object(objects, 0) + " " + x.object(objects - 1, 4) + " " + x.object(objects - 1, 5), "true -1 3 -1");
        int properties = x.object(0, 3);
        Kit.check("property", (x.property(0, properties - 1, 0) >= 0) + " " + x.property(0, properties, 0) + " " + x.property(0, 0, 2) + " " + x.property(0, 0, 3), "true -1 9 -1");
        Kit.check("printed", x.printed(0, 1) + " " + x.printed(0, 2) + " " + (x.printed(0, -1) >= 0) + " " + x.printed(0, -2) + " " + x.printed(1, 0) + " " + x.printed(1, -1),
            "49 -1 true -1 -1 -1");
        int last = x.count(0) - 1;
        Kit.check("height", (x.height(last) >= 0) + " " + x.height(last + 1) + " " + (x.height(0)) + " " + x.height(-1), "true -1 0 -1");
        Kit.check("warns", (x.warns(last) >= 0) + " " + x.warns(last + 1) + " " + x.warns(0) + " " + x.warns(-1), "true -1 0 -1");
        for (int far : FAR) {
            Kit.check("far ones, " + far, x.frame(far, 0) + " " + x.frame(0, far) + " " + x.value(far, 0, 0) + " " + x.value(0, far, 0) + " " + x.value(0, -1, far) + " " + x.object(far, 0)
                + " " + x.object(0, far) + " " + x.property(far, 0, 0) + " " + x.property(0, far, 0) + " " + x.property(0, 0, far) + " " + x.printed(far, 0) + " " + x.printed(0, far)
                + " " + x.printed(far, -1) + " " + x.uncaught(far) + " " + x.height(far) + " " + x.warns(far) + " " + x.instruction(far, 0) + " " + x.instruction(0, far) + " "
                + x.letter(far, 0) + " " + x.letter(0, far) + " " + x.count(far) + " " + x.back(far), "-1 ".repeat(21) + "-1");
            Kit.check("far ones that are 0, " + far, x.slot(far, -1, 0) + x.slot(0, far, 0) + x.slot(0, -1, far) + x.field(far, 0, 0, 0) + x.field(0, far, 0, 0) + x.field(0, 0, far, 0)
                + x.field(0, 0, 0, far) + x.link(far, 0, 5) + x.link(0, far, 5) + x.link(0, 0, far) + x.link(0, -1, far) + x.result(far, 0, 0) + x.result(0, far, 0)
                + x.result(0, 0, far), 0);
        }
    }

    // Objects whose 512th call is answered as is due.
    private static void lifetimes() {
        Kit.sentence("An object is used for at most 512 calls after it has been made.");
        ScriptTypes x = new ScriptTypes();
        for (int i = 1; i <= 256; i++) {
            Kit.check("feed " + i, x.feed(i, 0, 0, 0, 0), 20);
            Kit.check("back " + i, x.back(20), 0);
        }
        ScriptTypes y = new ScriptTypes();
        for (int i = 0; i < 511; i++) {
            Kit.check("read " + i, y.read(), 0);
        }
        Kit.check("count as call 512", y.count(0), 2);
        ScriptTypes z = new ScriptTypes();
        z.feed(0x40404040, 0x40404040, 0, 0, 0);
        z.back(20);
        z.feed(0x666f7228, 0x3b3b2961, 0x3d613d31, 0x20202020, 0x20202020);
        z.read();
        z.begin();
        for (int i = 0; i < 506; i++) {
            Kit.check("run " + i, z.run(2000), 2000);
        }
        Kit.check("steps as call 512", z.count(7), 506 * 2000);
        ScriptTypes s = new ScriptTypes();
        s.read();
        for (int i = 0; i < 510; i++) {
            Kit.check("solve " + i, s.solve(), 2);
        }
        Kit.check("height as call 512", s.height(1), 1);
        ScriptTypes b = new ScriptTypes();
        b.read();
        for (int i = 0; i < 255; i++) {
            b.begin();
            Kit.check("run from its beginning " + i, b.run(2000), 2);
        }
        Kit.check("how it is, as call 512", b.count(6), 2);
        ScriptTypes r = new ScriptTypes();
        for (int i = 0; i < 512; i++) {
            Kit.check("refused call " + i, Kit.outcome(() -> r.run(0)), "IllegalStateException");
        }
    }
}
