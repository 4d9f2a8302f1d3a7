/** Promises 4, 8 and 16 on an object that was used before: what was read, run or solved ahead leaves nothing. */
public final class AgainTest {
    private static final String[] SCRIPTS = {
        "",
        "print(1)",
        "function f(a,b,c){var d=a;return d}print(f(1,2,3)+f(4))",
        "function f(){var x;return typeof x}print(f(1,2))",
        "x=function g(a){return g===x};print(x(1))",
        "x=function(a){return typeof g};print(x(1))",
        "o={a:1,b:[1,2]};delete o.a;o.c='s'+1;for(k in o)print(k)",
        "function F(){this.p=1}for(i=0;i<3;i++){o=new F;a=[o]}print(i)",
        "try{null.x}catch(e){print(e.name)}finally{print('f'+2)}throw 'q'+3",
        "switch(3){case 1:default:print(0);break;case 3:print('t')}while(1){try{break}finally{print(7)}}",
        "function f(){for(k in {a:1})try{return k}finally{k=[]}}print(f());q",
        "a=1;b=2;c=a<b;d=a&&b;e=a?b:c;void 0;a.b.c"};

    private AgainTest() {
    }

    public static void main(String[] args) {
        reading();
        beginning();
        beginningInTheMidst();
        solving();
        Kit.end("AgainTest");
    }

    private static void run(ScriptTypes x) {
        x.begin();
        x.run(2000);
    }

    // The code and the counts.
    private static String code(ScriptTypes x) {
        StringBuilder s = new StringBuilder();
        for (int what = 0; what <= 12; what++) {
            s.append(x.count(what)).append(' ');
        }
        for (int k = 0; k < x.count(0); k++) {
            s.append(x.instruction(k, 0)).append(',').append(x.instruction(k, 1)).append(',').append(x.instruction(k, 2)).append(',').append(x.instruction(k, 3)).append(' ');
        }
        return s.toString();
    }

    // What a run left: counts, lines, and all that the objects from 23 on have.
    private static String left(ScriptTypes x) {
        StringBuilder s = new StringBuilder(Kit.output(x));
        for (int what = 6; what <= 11; what++) {
            s.append(' ').append(x.count(what));
        }
        for (int o = 23; o < x.count(8) && o < 33; o++) {
            s.append('\n').append(o);
            for (int what = 0; what <= 4; what++) {
                s.append(' ').append(x.object(o, what));
            }
            for (int k = 0; k < x.object(o, 3); k++) {
                s.append(' ').append(x.property(o, k, 0)).append(':').append(x.property(o, k, 1)).append(':').append(x.property(o, k, 2));
            }
        }
        return s.toString();
    }

    private static String globals(ScriptTypes x) {
        StringBuilder s = new StringBuilder();
        for (int k = 0; k < x.object(0, 3); k++) {
            s.append(x.property(0, k, 0)).append(':').append(x.property(0, k, 1)).append(':').append(x.property(0, k, 2)).append(' ');
        }
        return s.toString();
    }

    private static String solved(ScriptTypes x) {
        StringBuilder s = new StringBuilder();
        for (int k = 0; k < x.count(0); k++) {
            s.append(x.height(k)).append(',').append(x.warns(k)).append(' ');
        }
        for (int f = 0; f < x.count(1); f++) {
            s.append(Kit.result(x, f, 0)).append('/').append(Kit.result(x, f, 1)).append(' ');
        }
        int last = x.count(0) - 1;
        for (int l = 0; l < x.count(3) && l < 50; l++) {
            s.append(x.link(last, l, 0)).append(',').append(x.link(last, l, 3)).append(',').append(x.field(last, l, 31, 0)).append(' ');
        }
        return s.toString();
    }

    /** What is looked at, of an object that has read the script last. */
    private interface Look {
        String of(ScriptTypes x);
    }

    private static final Look[] LOOKS = {
        AgainTest::code,
        x -> {
            run(x);
            return left(x);
        },
        x -> {
            run(x);
            return globals(x);
        },
        x -> {
            x.solve();
            return solved(x);
        }};

    private static void reading() {
        Kit.sentence("read: The tape's text becomes the script. The machine has not begun, nothing is solved.");
        for (Look look : LOOKS) {
            String[] fresh = new String[SCRIPTS.length];
            for (int i = 0; i < SCRIPTS.length; i++) {
                fresh[i] = look.of(Kit.script(SCRIPTS[i]));
            }
            for (String before : SCRIPTS) {
                for (int i = 0; i < SCRIPTS.length; i++) {
                    ScriptTypes x = Kit.script(before);
                    run(x);
                    x.solve();
                    Kit.check("fault of " + SCRIPTS[i], Kit.read(x, SCRIPTS[i]), 0);
                    Kit.check("nothing is begun or solved", x.count(6) + " " + x.count(12) + " " + x.frame(0, 0) + " " + x.object(0, 0) + " " + x.printed(0, -1) + " " + x.uncaught(0)
                        + " " + x.height(0) + " " + x.warns(0) + " " + x.slot(0, -1, 0) + " " + x.link(0, 0, 5) + " " + x.result(0, 0, 0), "0 -1 -1 -1 -1 -1 -1 -1 0 0 0");
                    Kit.check(SCRIPTS[i] + " behind " + before, look.of(x), fresh[i]);
                }
            }
        }
        for (String fault : new String[] {"(", "function f(a,b){switch(a){case 1:while(b){", "[];".repeat(20), "x='abc", "{".repeat(21), "function f(a,a){}", "for(a=(b in", "try{}finally{a.b+=("}) {
            for (int i = 0; i < SCRIPTS.length; i++) {
                ScriptTypes x = new ScriptTypes();
                Kit.check("a fault", Kit.read(x, fault) != 0, true);
                Kit.read(x, SCRIPTS[i]);
                Kit.check(SCRIPTS[i] + " behind " + fault, code(x), code(Kit.script(SCRIPTS[i])));
            }
        }
    }

    private static void beginning() {
        Kit.sentence("begin: The machine begins anew, at the script's first instruction.");
        for (String script : SCRIPTS) {
            ScriptTypes x = Kit.script(script);
            run(x);
            String first = left(x);
            run(x);
            Kit.check("the second run of " + script, left(x), first);
            x = Kit.script(script);
            run(x);
            first = globals(x);
            run(x);
            Kit.check("the globals of the second run of " + script, globals(x), first);
        }
    }

    private static void beginningInTheMidst() {
        for (int steps = 0; steps < 40; steps++) {
            for (String script : SCRIPTS) {
                ScriptTypes x = Kit.script(script);
                x.begin();
                if (x.count(6) == 1) {
                    x.run(steps);
                }
                x.begin();
                Kit.check("begun anew at step " + steps, x.count(6) + " " + x.count(7) + " " + x.count(8) + " " + (x.count(9) - x.count(2)) + " " + x.count(10) + " " + x.count(11) + " "
                    + x.frame(0, 0) + " " + x.frame(0, 1) + " " + x.frame(0, 2) + " " + x.frame(0, 3) + " " + x.frame(0, 4) + " " + x.value(0, -1, 0) + " " + x.uncaught(0) + " " + x.printed(0, -1)
                    + " " + x.object(23, 0), "1 0 23 0 0 1 0 0 0 -1 0 0 -1 -1 -1");
                if (steps % 10 == 7) {
                    x.run(2000);
                    String again = left(x);
                    ScriptTypes fresh = Kit.script(script);
                    run(fresh);
                    Kit.check("the run behind it of " + script, again, left(fresh));
                }
            }
        }
        ScriptTypes deep = Kit.script("function f(n){try{return [1,2,{a:n&&f(n-1)}]}catch(e){}}" + "print(1,2,3,".repeat(3) + "f(20)" + ")".repeat(3));
        for (int i = 0; i < 200; i++) {
            deep.begin();
            deep.run(300);
        }
        Kit.check("a deep stack", deep.count(11) + " " + deep.frame(0, 4) + " " + deep.count(6), deep.count(11) + " 1 1");
        deep.begin();
        deep.run(2000);
        Kit.check("and the run behind it", Kit.output(deep), "1/1/1/ended");
    }

    private static void solving() {
        Kit.sentence("solve: Solves the script: how many instructions are REACHED.");
        for (String script : SCRIPTS) {
            ScriptTypes x = Kit.script(script);
            int reached = x.solve();
            String first = solved(x);
            Kit.check("solve again", x.solve(), reached);
            run(x);
            Kit.check("solve behind a run of " + script, x.solve() + " " + x.count(12), reached + " " + reached);
            Kit.check("what was solved stays", first.isEmpty(), false);
        }
    }
}
