/** Section 4 of the terms and promises 16 to 22: each sentence that names a bound, on both of its sides. */
public final class AbstractBoundsTest {
    private static final String[] ALONE = {"undefined", "null", "true", "false", "NaN", "0", "1", "-5", "33", "2147483647", "''", "'a'", "'5'", "'-1'"};

    private AbstractBoundsTest() {
    }

    public static void main(String[] args) {
        beginning();
        labelNumbers();
        single();
        joins();
        foldsOfOne();
        foldsOfTwo();
        folds();
        keys();
        texts();
        truths();
        reading();
        writing();
        making();
        errors();
        emptySets();
        scopes();
        gets();
        puts();
        deletes();
        unaries();
        binaries();
        ins();
        instances();
        ways();
        lists();
        calls();
        ends();
        makers();
        arrayNatives();
        objectNatives();
        callNative();
        news();
        heights();
        reached();
        flags();
        asking();
        Kit.end("AbstractBoundsTest");
    }

    private static ScriptTypes solved(String text) {
        ScriptTypes x = Kit.script(text);
        x.solve();
        return x;
    }

    private static int find(ScriptTypes x, String instruction, int n) {
        int left = n;
        for (int k = 0; k < x.count(0); k++) {
            if (Kit.instruction(x, k).startsWith(instruction) && left-- == 0) {
                return k;
            }
        }
        Kit.check("no instruction " + instruction + " " + n + " in " + Kit.code(x), -1, 0);
        return 0;
    }

    private static String top(ScriptTypes x, int k) {
        return x.height(k) < 0 ? "not reached" : Kit.slot(x, k, x.height(k) - 1);
    }

    // Functions that stand ahead, so that the labels and names of what is tried lie behind the first 64, or on both sides.
    private static final String[] AHEAD = {"", "function d(){}".repeat(5), "function d(){}".repeat(6), parameters(3) + "function d(" + list("qz", 6) + "){}"};

    private static String list(String name, int n) {
        StringBuilder s = new StringBuilder();
        for (int i = 0; i < n; i++) {
            s.append(i == 0 ? "" : ",").append(name).append(i);
        }
        return s.toString();
    }

    private static String parameters(int functions) {
        StringBuilder s = new StringBuilder();
        for (int f = 0; f < functions; f++) {
            s.append("function d(").append(list("q" + (char) ('a' + f), 8)).append("){}");
        }
        return s.toString();
    }

    // The words of a set whose labels behind the first ones are higher.
    private static String higher(String set, int by) {
        StringBuilder s = new StringBuilder();
        for (String word : set.split(" ")) {
            boolean label = word.matches("L\\d+") && Integer.parseInt(word.substring(1)) >= 29;
            s.append(s.length() == 0 ? "" : " ").append(label ? "L" + (Integer.parseInt(word.substring(1)) + by) : word);
        }
        return s.toString();
    }

    /** What z becomes where it is set last; # is a way that is perhaps gone: in a loop, whose end brings it later, or at once. */
    private static void is(String text, String want) {
        if (text.contains("#")) {
            moves(text.replace("#", "for(k in 1)"), want, 1);
        }
        moves(text.replace("#", "if(~print)"), want, AHEAD.length);
    }

    // Tried, too, with functions that stand ahead.
    private static void moves(String text, String want, int most) {
        for (int i = 0; i < most; i++) {
            moved(AHEAD[i], text, want);
        }
    }

    private static void moved(String ahead, String text, String want) {
        ScriptTypes x = new ScriptTypes();
        int fault = Kit.read(x, ahead + text);
        if (fault == 4 && !ahead.isEmpty()) {
            return;
        }
        Kit.check("fault of " + ahead + text, fault, 0);
        x.solve();
        int k = 0;
        for (int i = 0; i < x.count(0); i++) {
            k = x.instruction(i, 0) == 4 && Kit.instruction(x, i).equals("SETGLOBAL:z") ? i : k;
        }
        Kit.check("z of " + ahead + text, top(x, k), higher(want, 6 * (ahead.split("function").length - 1)));
    }

    // Statements behind which v may be each of these, all of them from the first time on that what is behind is looked at.
    private static String any(String v, String... values) {
        StringBuilder s = new StringBuilder("c=~print;" + v + "=" + values[0] + ";");
        for (int i = 1; i < values.length; i++) {
            s.append("if(c)").append(v).append('=').append(values[i]).append(';');
        }
        return s.toString();
    }

    private static void beginning() {
        Kit.sentence("the script's first instruction has at least that with which the machine begins (PROTOs and fields as there; all others ABSENT; THIS UNDEFINED, SCOPE none)");
        ScriptTypes x = solved("q");
        x.begin();
        for (int o = 0; o < 23; o++) {
            int proto = x.object(o, 1);
            Kit.check("label " + o, x.link(0, o, 0) + " " + x.link(0, o, 1) + " " + x.link(0, o, 2) + " " + x.link(0, o, 3) + " " + x.link(0, o, 4) + " " + x.link(0, o, 5),
                (proto < 0 ? 0 : 1L << proto) + " 0 " + (proto < 0 ? 1 : 0) + " 0 0 1");
        }
        for (int o = 0; o < 23; o++) {
            firstFields(o);
        }
        Kit.check("THIS and SCOPE", Kit.slot(x, 0, -1) + " " + x.link(0, -1, 3) + " " + x.link(0, -1, 4), "undefined 0 0");
        Kit.sentence("A label that is not there has nothing in all that.");
        ScriptTypes y = solved("function f(){}[]");
        for (int l = 23; l < y.count(3); l++) {
            Kit.check("label " + l, y.link(0, l, 0) + " " + y.link(0, l, 2) + " " + y.link(0, l, 3) + " " + y.link(0, l, 5) + " " + y.field(0, l, 0, 0) + " " + y.field(0, l, y.count(2), 0),
                "0 0 0 0 0 0");
        }
    }

    private static void firstFields(int o) {
        ScriptTypes x = solved("q");
        x.begin();
        for (int n = 0; n <= x.count(2); n++) {
            String want = "absent";
            for (int k = 0; k < x.object(o, 3); k++) {
                if (x.property(o, k, 0) == n) {
                    want = x.property(o, k, 1) == 7 ? "L" + x.property(o, k, 2) : Kit.value(x, x.property(o, k, 1), x.property(o, k, 2));
                }
            }
            Kit.check("field " + n + " of label " + o, Kit.field(x, 0, o, n), want);
        }
    }

    private static String protos(ScriptTypes x, int k, int... labels) {
        StringBuilder s = new StringBuilder();
        for (int l : labels) {
            s.append(x.link(k, l, 5) == 0 ? "-" : "" + Long.numberOfTrailingZeros(x.link(k, l, 0))).append(' ');
        }
        return s.toString().trim();
    }

    private static void labelNumbers() {
        Kit.sentence("LABELS: 23 those that Object made, 24 Array, 25 Error, 26, 27, 28 TypeError, ReferenceError, RangeError");
        is("z=Object()", "L23");
        is("z=new Object", "L23");
        is("z=Array()", "L24");
        is("z=new Array(5)", "L24");
        is("z=Error()", "L25");
        is("z=new TypeError", "L26");
        is("z=ReferenceError(1)", "L27");
        is("z=RangeError()", "L28");
        ScriptTypes x = solved("z=1;Object();Array();Error();TypeError();ReferenceError();RangeError()");
        int k = x.count(0) - 1;
        Kit.check("their PROTOs", protos(x, k, 23, 24, 25, 26, 27, 28), "1 3 5 6 7 8");
        Kit.check("ahead", protos(x, 0, 23, 24, 25, 26, 27, 28), "- - - - - -");
        for (int i = 0; i < 6; i++) {
            int call = find(x, "CALL", i);
            Kit.check("label " + (23 + i) + " around its call", x.link(call - 1, 23 + i, 5) + " " + x.link(call, 23 + i, 5) + " " + x.link(call + 1, 23 + i, 5), "0 0 1");
        }
        Kit.sentence("then for each function g = 1, 2, .. six, from 29 + 6 * (g - 1) on: its latest scope, its older ones, its latest function's object, older ones, its latest prototype object, "
            + "older ones");
        is("function f(){}z=f", "L31");
        is("function f(){}function g(){}z=g", "L37");
        is("function f(){}z=f.prototype", "L33");
        is("function f(){}function g(){}z=g.prototype", "L39");
        is("for(k in 1){var z=o;var o=function(){}}z=o", "undefined L31");
        is("for(k in 1){z=o;var o=function(){}}var o;z=o", "undefined L31");
        is("for(k in 1){var p=o;var o=function(){}}z=p", "undefined L32");
        is("for(k in 1){var p=o;var o=function(){}.prototype}z=p", "undefined L34");
        ScriptTypes f = solved("function f(a){if(a)f(0);1}f(1);f(2)");
        int one = find(f, "1", 1);
        Kit.check("scopes", f.link(one, -1, 3) + " " + f.link(one, 29, 5) + " " + f.link(one, 30, 5), ((1L << 29) + (1L << 30)) + " 1 1");
        Kit.sentence("then for each site two: the latest object of it, older ones (of OBJECT, ARRAY, and of NEW what it made as this)");
        is("z={}", "L29");
        is("[];z={}", "L31");
        is("function f(){}[];z={}", "L37");
        is("for(k in 1){var p=o;var o=[]}z=p", "undefined L30");
        is("for(k in 1){var p=o;var o=[]}if(p){p.length='q';z=p.length}", "0");
        is("for(k in 1){var p=o;var o=[]}if(p){p[0]=1;z=p.length}", "NUM");
        is("for(k in 1){var p=o;var o=[]}p=p;z=delete p.length", "true false");
        is("for(k in 1){var p=o;var o=[]}z=[].push.call(p,1)", "NUM");
        is("for(k in 1){var p=o;var o={}}if(p){p.length='q';z=p.length}", "undefined 'q'");
        is("function F(){}[];z=new F", "L37 L38");
        is("function F(){z=this}new F", "L35");
        Kit.check("counts of labels", solved("").count(3) + " " + solved("function f(){}").count(3) + " " + solved("[];({});new f").count(3) + " " + solved("function f(){[]}").count(3), "29 35 35 37");
    }

    private static void single() {
        Kit.sentence("SINGLE are the labels 0 .. 22 and the latest ones.");
        for (String one : new String[] {"Object.prototype", "Object", "print", "Array.prototype", "isNaN", "Error", "RangeError.prototype", "[].push", "print.call", "'a'.charAt"}) {
            is("o=" + one + ";o.p=1;o.p='x';z=o.p", "'x'");
        }
        for (String one : new String[] {"Object()", "Array()", "Error()", "TypeError()", "ReferenceError()", "RangeError()"}) {
            is("o=" + one + ";o.p=1;o.p='x';z=o.p", "undefined 1 'x'");
        }
        for (String one : new String[] {"{}", "[]", "function(){}", "function(){}.prototype"}) {
            is("o=" + one + ";o.p=1;o.p='x';z=o.p", "'x'");
            is("for(k in 1){var u=o,o=" + one + ";o.p=1;o.p='x'}u.p=null;z=u.p", "null 'x'");
        }
        is("o=0;for(k in 1){u=o;o={};o.p=1;if(u)u.p='x'}z=o.p", "undefined 1");
        is("function F(){this.p=1;this.p='x';z=this.p}new F", "'x'");
        is("function F(){}o=new F;o.p=1;z=o.p", "undefined 1");
        is("function f(a){a='x';z=a}f(1)", "'x'");
        Kit.sentence("(Label 0 is written so by SET GLOBAL.)");
        is("a=1;a='x';z=a", "'x'");
        is("#a=1;a='x';z=a", "'x'");
    }

    private static void joins() {
        Kit.sentence("To JOIN sets: what is in one of them; of two unlike numbers ALL, likewise strings.");
        is(any("v", "1", "1") + "z=v", "1");
        is(any("v", "1", "2") + "z=v", "NUM");
        is(any("v", "0", "-0") + "z=v", "0");
        is(any("v", "'a'", "'a'") + "z=v", "'a'");
        is(any("v", "'a'", "'b'") + "z=v", "STR");
        is(any("v", "'a'", "''") + "z=v", "STR");
        is(any("v", "1", "'1'") + "z=v", "1 '1'");
        is(any("v", "undefined", "null", "true", "false", "NaN") + "z=v", "undefined null true false NaN");
        is(any("v", "1", "'a'", "null", "{}", "[]") + "z=v", "null 1 'a' L29 L31");
        is("for(k in 1){" + any("v", "1", "k") + "z=v}", "1 STR");
        is("for(k in 1){" + any("v", "'a'", "k") + "z=v}", "STR");
        is(any("v", "1", "2", "NaN", "'a'", "'b'", "{}") + "z=v", "NaN NUM STR L29");
        is("v=5;for(k in 1)v=-k;z=v", "NaN NUM");
        Kit.sentence("To JOIN states: all parts (a stack's LIST is an EMPTY set).");
        is("'p';c=~print;o={};o.q=c;while(c){o.p=1;o.q=5}z=o.p", "undefined 1");
        is("c=~print;o={};o.p=c;while(c){o.q=1;o.p=5}z=o.q", "undefined 1");
        is("c=~print;a={};b={};o={};o.x=a;while(c)o.x=b;z=o.x", "L29 L31");
        is("c=~print;a={};b={};o={};o.x=a;o.y=b;while(c)o.x=b;z=o.x", "L29 L31");
        is("function f(){return this}f.call(1);f.call(1);f.call(1);z=f.call('s')", "1 's'");
        is("function f(){return this}o={};f.call(o);f.call(o);f.call(o);z=f.call(print)", "L9 L35");
        is("c=~print;o=p=0;while(c){o={};p=0}z=o", "0 L29");
        is("c=~print;o={};while(c){q=1;o.p=5}z=typeof q", "STR");
        is("function F(){}function mk(){o=new F}c=~print;a={};b={p:1};F.prototype=a;mk();mk();F.prototype=a;if(c){F.prototype=b;mk();for(;;);}z=o.p", "undefined 1");
        is("function f(){return h()}function g(){return 's'}function h(){return 1}" + any("v", "f", "g") + "z=v()", "1 's'");
        is("function g(){return 's'}function f(){return h()}function h(){return 1}" + any("v", "f", "g") + "z=v()", "1 's'");
        is("function f(){h()}function g(){throw 's'}function h(){throw 1}" + any("v", "f", "g") + "try{v()}catch(e){z=e}", "1 's' L28");
        ScriptTypes x = solved("for(k in 1){if(k)o={};else a=[]}z=1");
        int k = find(x, "SETGLOBAL:z", 0);
        Kit.check("fields and labels of both ways", Kit.field(x, k, 0, "o") + "/" + Kit.field(x, k, 0, "a") + "/" + x.link(k, 29, 5) + x.link(k, 31, 5) + x.link(k, 30, 5) + "/"
            + Kit.field(x, k, 29, "o") + "/" + Kit.field(x, k, 31, "length"), "absent L29/absent L31/111/absent/0");
        ScriptTypes y = solved("for(k in 1)[1,k?2:'s']");
        int put = find(y, "PUT", 1);
        Kit.check("stacks of both ways", y.height(put) + " " + Kit.slot(y, put, 0) + "/" + Kit.slot(y, put, 1) + "/" + Kit.slot(y, put, 3) + "/" + Kit.slot(y, put, 4), "5 /L29/1/2 's'");
    }

    private static String want(ScriptTypes x) {
        int kind = x.value(0, x.frame(0, 2) - 1, 0);
        int datum = x.value(0, x.frame(0, 2) - 1, 1);
        return kind == 6 && datum >= x.count(2) ? "STR" : Kit.value(x, kind, datum);
    }

    // At each of the script's instructions of this sort, what is solved for its result is what the machine has.
    private static void asMachine(String text, String sort) {
        ScriptTypes x = solved(text);
        x.begin();
        while (x.count(6) == 1) {
            int k = x.frame(0, 1);
            boolean look = Kit.instruction(x, k).startsWith(sort);
            x.run(1);
            if (look) {
                Kit.check("result of instruction " + k + " of " + text, top(x, k + 1), want(x));
            }
        }
    }

    private static void foldsOfOne() {
        Kit.sentence("UNARY: of what is ALONE the FOLD of the value.");
        for (String value : ALONE) {
            asMachine("v=" + value + ";+v;-v;~v;!v;typeof v", "UNARY");
        }
    }

    private static void foldsOfTwo() {
        Kit.sentence("BINARY: of two that are ALONE (0 to 18) the FOLD.");
        for (String one : ALONE) {
            for (String two : ALONE) {
                asMachine("v=" + one + ";w=" + two + ";v+w;v-w;v*w;v/w;v%w;v<<w;v>>w;v>>>w;v&w;v|w;v^w;v==w;v!=w;v===w;v!==w;v<w;v>w;v<=w;v>=w", "BINARY");
            }
        }
    }

    private static void folds() {
        Kit.sentence("The FOLD of a string that is no NAME is ALL strings.");
        is("z='a'+'b'", "STR");
        is("z='a'+'b';'ab'", "'ab'");
        is("z=1+'a'", "STR");
        is("z=1+'a';'1a'", "'1a'");
        is("z='a'+undefined;'aundefined'", "'aundefined'");
        is("z=''+null", "'null'");
        is("z=''+5", "STR");
        is("z=''+5;'5'", "'5'");
        is("z='type'+'of'", "STR");
        is("z='un'+'defined'", "'undefined'");
        String forty = "x".repeat(40);
        is("z='" + forty + "'+'" + forty + "'", "STR");
        is("z=('" + forty + "'+'" + forty + "').length", "NUM");
        is("z=''+''", "''");
        Kit.sentence("ALONE, if it is one of the five, one number, or one string, and nothing else");
        is(any("v", "1", "null") + "z=+v", "NaN NUM");
        is(any("v", "1", "'1'") + "z=+v", "NaN NUM");
        is(any("v", "true", "false") + "z=!v", "true false");
        is(any("v", "undefined", "null") + "z=v==null", "true false");
        is("o={};z=o===o", "true false");
        is("o={};z=!o", "false");
        is("o={};z=+o", "NaN NUM");
        is("o={};z=~o", "NUM");
        is(any("v", "1", "2") + "z=v-v", "NaN NUM");
        is(any("v", "1", "2") + "z=1+v", "NaN NUM");
        is(any("v", "'a'", "'b'") + "z=v==v", "true false");
    }

    private static void keys() {
        Kit.sentence("KEYS of a set: of UNDEFINED, NULL, TRUE, FALSE, NAN the names 19, 25, 26, 27, 28; of a number its text, if that is a NAME, else OTHER");
        String five = "o={undefined:'u',null:'n',true:'t',false:'f',NaN:'a','[object]':'o',5:'5',x:'x'};";
        is(five + "z=o[undefined]", "'u'");
        is(five + "z=o[null]", "'n'");
        is(five + "z=o[true]", "'t'");
        is(five + "z=o[false]", "'f'");
        is(five + "z=o[NaN]", "'a'");
        is(five + "z=o[5]", "'5'");
        is(five + "z=o[6]", "undefined");
        is(five + "z=o['x']", "'x'");
        is(five + "z=o[{}]", "'o'");
        is(five + "z=o[print]", "'o'");
        is(five + any("v", "6", "'x'") + "z=o[v]", "undefined 'x'");
        is(five + any("v", "5", "'x'") + "z=o[v]", "STR");
        is("o={};o[7]=1;z=o[8]", "undefined 1");
        is("o={};o[7]=1;z=o[7]", "undefined 1");
        is("o={};o[7]=1;z=o[8];'8'", "undefined");
        is("o={};o[7]=1;z=o[7];'7'", "1");
        Kit.sentence("of ALL numbers all NAMES that are texts of ints, and OTHER");
        String[][] names = {{"0", "y"}, {"5", "y"}, {"-7", "y"}, {"2147483647", "y"}, {"2147483648", "n"}, {"-2147483648", "y"}, {"-2147483649", "n"}, {"05", "n"}, {"-0", "n"}, {"00", "n"}, {"+5", "n"},
            {"", "n"}, {"-", "n"}, {"5a", "n"}, {" 5", "n"}, {"--5", "n"}, {"10", "y"}, {"-10", "y"}, {"100", "y"}, {"99999999999", "n"}, {"1000000000", "y"}, {"9999999999", "n"}, {"-01", "n"},
            {"NaN", "n"}, {"null", "n"}, {"4294967296", "n"}, {"-1", "y"}, {"1 ", "n"}, {":", "n"}, {"/", "n"}};
        for (String[] name : names) {
            is("v=0;for(k in 1)v=~k;o={'" + name[0] + "':'q'};z=o[v]", name[1].equals("y") ? "undefined 'q'" : "undefined");
        }
        is("v=0;for(k in 1)v=~k;o={};o[77]='q';z=o[v]", "undefined 'q'");
        is("o={null:1,5:'s'};" + any("w", "null", "~print") + "z=o[w]", "undefined 1 's'");
        is("o={undefined:1,true:null,5:'s','[object]':{}};" + any("w", "undefined", "~print", "true", "{}") + "z=o[w]", "undefined null 1 's' L31");
        Kit.sentence("of ALL strings all NAMES and OTHER; of labels the name 29");
        is("o={5:null};for(k in 1)z=o[k]", "undefined null L10 L21");
        is("o={};o[7]='q';for(k in 1)z=o[k]", "undefined 'q' L10 L21");
        is("o={'[object]':1};z=o[{}]", "1");
        is("o={'[object]':1,x:'s'};" + any("v", "'x'", "{}") + "z=o[v]", "1 's'");
    }

    private static void texts() {
        Kit.sentence("Its TEXT: if its KEYS are one name, that string, else ALL strings.");
        is("z=String(5)", "STR");
        is("z=String(5);'5'", "'5'");
        is("z=String(-5);'-5'", "'-5'");
        is("z=String(undefined)", "'undefined'");
        is("z=String(null)", "'null'");
        is("z=String(true)", "'true'");
        is("z=String(false)", "'false'");
        is("z=String(NaN)", "'NaN'");
        is("z=String('q')", "'q'");
        is("z=String({})", "'[object]'");
        is("z=String()", "''");
        is("for(k in 1)z=String(k)", "STR");
        is("for(k in 1)z=String(~k)", "STR");
        is(any("v", "true", "false") + "z=String(v)", "STR");
        is(any("v", "null", "'null'") + "z=String(v)", "'null'");
        is(any("v", "{}", "[]", "print") + "z=String(v)", "'[object]'");
        is(any("v", "{}", "'[object]'") + "z=String(v)", "'[object]'");
        is(any("v", "5", "'5'") + "z=String(v)", "'5'");
        is(any("v", "5", "6") + "z=String(v);'5'+'6'", "STR");
    }

    private static void truths() {
        Kit.sentence("It MAY BE TRUE with TRUE, a number but 0, ALL numbers, a string but the empty one, ALL strings, labels; MAY BE FALSE with UNDEFINED, NULL, FALSE, NAN, 0, ALL numbers, "
            + "the empty string, ALL strings.");
        String[][] sets = {{"undefined", "f"}, {"null", "f"}, {"true", "t"}, {"false", "f"}, {"NaN", "f"}, {"0", "f"}, {"1", "t"}, {"-1", "t"}, {"''", "f"}, {"'a'", "t"}, {"'0'", "t"}, {"{}", "t"},
            {"print", "t"}, {"k", "tf"}, {"~k", "tf"}, {"Object()", "t"}};
        for (String[] set : sets) {
            boolean t = set[1].contains("t");
            boolean f = set[1].contains("f");
            String ahead = set[0].contains("k") ? "for(k in 1){v=" + set[0] + ";" : "{v=" + set[0] + ";";
            is(ahead + "z=v?1:null}", t && f ? "null 1" : t ? "1" : "null");
            is(ahead + "if(v)z=1}", t ? "1" : "not reached");
            is(ahead + "if(v);else z=1}", f ? "1" : "not reached");
            is(ahead + "z=v;v&&(z=1)}", t ? "1" : "not reached");
            is(ahead + "z=v;v||(z=1)}", f ? "1" : "not reached");
            is(ahead + "while(v){z=1;break}}", t ? "1" : "not reached");
            is(ahead + "z=!v}", t && f ? "true false" : t ? "false" : "true");
            is(any("w", "true") + ahead + "for(j in 1)w=v;w=w?w:w;z=!w}", f ? "true false" : "false");
            is(any("w", "false") + ahead + "for(j in 1)w=v;z=!w}", t ? "true false" : "true");
        }
    }

    private static void reading() {
        Kit.sentence("To READ keys from labels: for each key, from each label: its field is joined to the result; if it may be ABSENT, from the labels of its PROTO, too, and so on");
        is("o={p:1};z=o.p", "1");
        is("Object.prototype.p=2;o={p:1};z=o.p", "1");
        is("Object.prototype.p=2;o={};z=o.p", "2");
        is("Object.prototype.p='s';o={};#o.p=1;z=o.p", "1 's'");
        is("o={};#o.p=1;z=o.p", "undefined 1");
        is("function F(){}F.prototype.p=1;o=new F;z=o.p", "1");
        is("function F(){}F.prototype.p=1;Object.prototype.p='s';o=new F;z=o.p", "1");
        is("function F(){}#F.prototype.p=1;Object.prototype.p='s';o=new F;z=o.p", "1 's'");
        is("o={p:1};" + any("o", "{p:1}", "{p:'s'}", "{}") + "z=o.p", "undefined 1 's'");
        is("o={p:1,q:'s'};" + any("v", "'p'", "'q'") + "#v='p';z=o.p", "1");
        Kit.sentence("(each label once for each key)");
        is("function F(){}for(k in 1)F.prototype=new F;o=new F;z=o.p", "undefined");
        is("function F(){}for(k in 1){F.prototype=new F;F.prototype.p=1}o=new F;z=o.p", "undefined 1");
        is("function F(){}F.prototype={p:1};for(k in 1){F.prototype=new F;F.prototype=new F}o=new F;z=o.p", "1");
        is("function F(){}for(k in 1){F.prototype=new F;F.prototype=new F}F.prototype={p:1};z=new F().p", "1");
        is("function F(){}function h(){}function q(){return {p:1}}c=~print;Q=q();F.prototype=Q;do{F.prototype=new F;F.prototype=new F}while(c)o=new F;"
            + "while(c){z=o.p;h();h();h();h();h();h();h();h();Q.p='s'}", "1 's'");
        is(any("o", "{p:{}}", "{p:[]}") + "z=o.p", "L31 L35");
        is("function F(){}F.prototype={p:1};" + any("o", "new F", "{p:'s'}", "{}") + "z=o.p", "undefined 1 's'");
        Kit.sentence("if it may be ABSENT and the PROTO may be null, it can be MISSED");
        is("z={}.p", "undefined");
        is("#Object.prototype.p=1;z={}.p", "undefined 1");
        is("Object.prototype.p=1;z={}.p", "1");
        is("z=Object.prototype.p", "undefined");
        is(any("o", "Object.prototype", "{}") + "z=o.p", "undefined");
        is(any("o", "Object.prototype", "{p:1}") + "z=o.p", "undefined 1");
        is(any("o", "Object.prototype", "{p:1}") + "z='p' in o", "true false");
        is(any("w", "'p'", "null") + "o={p:1};z=o[w]", "undefined 1");
        is("z='p' in {}", "false");
        is("z='p' in {p:1}", "true");
    }

    private static void writing() {
        Kit.sentence("A field is WRITTEN by a key to labels, of which there is one alone, which is SINGLE, and one key that is a name: it is what is written, not ABSENT");
        is("o={p:1};o.p='s';z=o.p", "'s'");
        is("o={};o.p='s';z=o.p", "'s'");
        is("o={p:1};o['p']='s';z=o.p", "'s'");
        is("o={5:1};o[5]='s';z=o[5]", "'s'");
        is("o={p:1};#o.p='s';z=o.p", "1 's'");
        Kit.sentence("otherwise (also if the set that is written to has other things) what is written is joined to all fields of these keys and labels that are there");
        is("a={p:1};b={p:1};" + any("o", "a", "b") + "o.p='s';z=a.p", "1 's'");
        is("a={p:1};b={p:1};" + any("o", "a", "b") + "o.p='s';z=b.p", "1 's'");
        is("a={p:1};" + any("o", "a", "a") + "o.p='s';z=a.p", "'s'");
        is("a={p:1};" + any("o", "a", "5") + "o.p='s';z=a.p", "1 's'");
        is("a={p:1};" + any("o", "a", "null") + "o.p='s';z=a.p", "1 's'");
        is("a={p:1};" + any("o", "a", "'x'") + "o.p='s';z=a.p", "1 's'");
        is("a={p:1};" + any("o", "a", "undefined", "true") + "o.p='s';z=a.p", "1 's'");
        is("a={p:1,q:1};" + any("v", "'p'", "'q'") + "#v='p';a[v]='s';z=a.p", "1 's'");
        is("a={p:1};" + any("v", "'p'", "null") + "a[v]='s';z=a.p", "1 's'");
        is("a={p:1};" + any("v", "'p'", "null") + "a[v]='s';z=a[null]", "undefined 's'");
        is("o={p:{}};" + any("w", "'p'", "null") + "o[w]=print;z=o.p", "L9 L31");
        is("o={p:{}};" + any("w", "'p'", "null") + "o[w]=[];z=o.p", "L31 L33");
        is("a={p:1};a[7]='s';z=a.p", "1");
        is("a={p:1};a[7]='s';a[7]=null;z=a[7]", "undefined null 's'");
        is("a={7:1};a[7]='s';a[7]=null;z=a[7]", "null");
        is("for(k in 1){a={p:1};a[k]='s';z=a.p}", "1 's'");
        is("for(k in 1){a={p:1};a[~k]='s';z=a.p}", "1");
        is("for(k in 1){a={5:1};a[~k]='s';z=a[5]}", "1 's'");
        is("o=Object();o.p=1;z=o.p", "undefined 1");
        ScriptTypes x = solved("for(k in 1){var u=o,o={p:1}}if(u)u.q=1;z=1");
        int k = find(x, "SETGLOBAL:z", 0);
        Kit.check("labels that are there", Kit.field(x, k, 29, "q") + "/" + Kit.field(x, k, 30, "q"), "absent/1 absent");
        ScriptTypes y = solved(any("o", "{}", "Object()") + "o.q=1;z=1");
        k = find(y, "SETGLOBAL:z", 0);
        Kit.check("labels of both", Kit.field(y, k, 29, "q") + "/" + Kit.field(y, k, 23, "q") + "/" + Kit.field(y, k, 30, "q"), "1 absent/1 absent/");
    }

    private static void making() {
        Kit.sentence("To MAKE a pair's latest object: in the whole state (stack, THIS, SCOPE, PROTOs, LINKs, fields) the older label stands for the latest one from now on, and has joined all "
            + "that the latest one had; then the latest one is NEW.");
        ScriptTypes stack = solved("for(k in 1)[a=o,o=[]];var o,a");
        int put = find(stack, "PUT", 1);
        Kit.check("the stack", Kit.slot(stack, put, 4), "L31");
        ScriptTypes s = solved("function f(a){return a?[f(a-1),1]:{}}f(2)");
        Kit.check("the stack over a call that makes the same one", Kit.slot(s, find(s, "PUT", 0), 0) + "/" + Kit.slot(s, find(s, "PUT", 0), 1), "L35 L36/L35 L36");
        is("c=~print;o=0;while(c)try{try{if(o)throw o}finally{o={}}}catch(x){z=x}", "0 L29 L32");
        is("function F(a){z=a}o=0;while(~print)o=new F(o)", "0 L36");
        is("function F(n){try{if(n)new F(0)}catch(e){z=this}}new F(1)", "L35 L38");
        is("function F(n){if(n)new F(0);z=this}new F(1)", "L35 L36 L37 L38");
        ScriptTypes t = solved("function F(){z=this}for(k in 1)new F");
        Kit.check("THIS of a call is the latest one", Kit.slot(t, find(t, "THIS", 0), -1), "L35");
        ScriptTypes scope = solved("function f(n){if(n)f(0);return n}f(1)");
        int load = find(scope, "LOAD0:n", 1);
        Kit.check("SCOPE", scope.link(load, -1, 3), (1L << 29) + (1L << 30));
        ScriptTypes proto = solved("function F(){}for(k in 1){F.prototype={};var p=o,o=new F}z=1");
        int k = find(proto, "SETGLOBAL:z", 0);
        Kit.check("PROTOs", proto.link(k, 37, 0) + " " + proto.link(k, 38, 0), (1L << 35) + " " + ((1L << 36)));
        ScriptTypes link = solved("function f(){return function(){}}for(k in 1){var p=o,o=f()}z=1");
        k = find(link, "SETGLOBAL:z", 0);
        Kit.check("LINKs", link.link(k, 37, 3) + " " + link.link(k, 38, 3), (1L << 29) + " " + (1L << 30));
        ScriptTypes field = solved("for(k in 1){var p=o,o={q:1}}z=1");
        k = find(field, "SETGLOBAL:z", 0);
        Kit.check("fields", Kit.field(field, k, 0, "o") + "/" + Kit.field(field, k, 0, "p") + "/" + Kit.field(field, k, 30, "q") + "/" + Kit.field(field, k, 29, "q"),
            "undefined L29/undefined L30/1/1");
        ScriptTypes joined = solved("for(k in 1){o={};o.p=1;o.q=o}z=1");
        k = find(joined, "SETGLOBAL:z", 0);
        Kit.check("the older one has joined what the latest one had", Kit.field(joined, k, 30, "q") + "/" + Kit.field(joined, k, 29, "q") + "/" + Kit.field(joined, k, 30, "p"), "L30/L29/1");
        int copy = find(joined, "SETGLOBAL:o", 0);
        Kit.check("the latest one is NEW", Kit.field(joined, copy, 29, "q") + "/" + Kit.field(joined, copy, 29, "p") + "/" + joined.link(copy, 29, 3), "absent/absent/0");
        Kit.sentence("to ADD a new one: joined to what the label has");
        ScriptTypes add = solved("a=Object();a.p=1;b=Object();z=1");
        k = find(add, "SETGLOBAL:z", 0);
        Kit.check("fields of 23", Kit.field(add, k, 23, "p") + "/" + add.link(k, 23, 0) + " " + add.link(k, 23, 2), "1 absent/2 0");
        ScriptTypes er = solved("a=Error('m');b=Error();c=Error(5);z=1");
        k = find(er, "SETGLOBAL:z", 0);
        Kit.check("messages", Kit.field(er, k, 25, "message") + "/" + Kit.field(er, find(er, "SETGLOBAL:a", 0), 25, "message") + "/"
            + Kit.field(er, find(er, "SETGLOBAL:b", 0), 25, "message"), "STR absent/'m'/'m' absent");
    }

    private static void errors() {
        Kit.sentence("An ERROR (label 26 TypeError, 27 ReferenceError, 28 RangeError) ADDs this label with the PROTO 6, 7, 8; what is thrown is that label.");
        is("try{null.x}catch(e){z=e}", "L26");
        is("try{q}catch(e){z=e}", "L27");
        is("function f(){}try{f()}catch(e){z=e}", "L28");
        ScriptTypes x = solved("function f(){}try{f()}catch(e){z=1}");
        int k = find(x, "SETGLOBAL:z", 0);
        Kit.check("label 28", x.link(k, 28, 0) + " " + x.link(k, 28, 2) + " " + x.link(k, 28, 5) + " " + Kit.field(x, k, 28, "message") + " " + x.link(k, 26, 5) + x.link(k, 27, 5), "256 0 1 absent 00");
        Kit.sentence("Thrown is to the place of the latest TRY that is open there: with the stack as high as it was at the TRY, and what is thrown; without one to the function's THROWN END.");
        is("try{try{q}catch(e){null.x}}catch(e){z=e}", "L26");
        is("try{try{q}finally{}}catch(e){z=e}", "L27");
        is("try{try{q}catch(e){}}catch(e){z=e}", "not reached");
        is("try{1}catch(e){z=e}", "not reached");
        is("#try{[1,2,q]}catch(e){z=e}", "L27");
        ScriptTypes y = solved("for(k in 1)try{[1,2,q]}catch(e){}");
        int set = find(y, "SETGLOBAL:e", 1);
        Kit.check("the stack there", y.height(set) + " " + Kit.slot(y, set, 0) + "/" + Kit.slot(y, set, 1), "2 /L27");
        ScriptTypes f = solved("function f(){q}function g(){f()}try{g()}catch(e){}null.x");
        Kit.check("thrown ends", Kit.result(f, 1, 1) + "/" + Kit.result(f, 2, 1) + "/" + Kit.result(f, 0, 1), "L27/L27 L28/L26");
    }

    private static void emptySets() {
        Kit.sentence("if its result is an EMPTY set, there is no normal way");
        is("z=q", "not reached");
        is("q;z=1", "not reached");
        is("z=null.x", "not reached");
        is("function f(){for(;;);}z=f()", "not reached");
        is("function f(){throw 1}z=f()", "not reached");
        is("function f(){for(;;);}z=new f", "not reached");
        is("function F(){}F.prototype=5;z=5 instanceof F", "not reached");
        is("#q=1;z=q", "1");
        ScriptTypes x = solved("q;1");
        Kit.check("reached alone", x.count(12) + " " + x.warns(0) + " " + x.warns(1), "1 6 -1");
    }

    private static void scopes() {
        Kit.sentence("LOAD: SCOPE, then a times the LINKs of all these labels; the join of their fields b. STORE writes to them.");
        is("function f(a){z=a}f(1)", "1");
        is("function f(a){z=a}f(1);f('s')", "1 's'");
        is("function f(a){(function(){z=a})()}f(1)", "1");
        is("function f(a){return function(){return a}}g=f(1);h=f('s');z=g()", "1 's'");
        is("function f(a){return function(){return a}}g=f(1);z=g()", "1");
        is("function f(a){a='s';z=a}f(1)", "'s'");
        is("function f(a){(function(){a='s'})();z=a}f(1)", "'s'");
        is("function f(a){return function(){a='s';return a}}g=f(1);h=f(2);z=g()", "NUM 's'");
        is("function f(a){(function(){(function(){z=a})()})()}f(1)", "1");
        is("function h(){}function f(a){return function(){h();z=a}}f(1)()", "1");
        is("function h(){}function f(a){h();z=a}f(1)", "1");
        is("function h(){}function f(a){h();a='s';z=a}f(1)", "1 's'");
        is("function f(a,n){if(n)f(print,0);z=a;a=null}f(1,1)", "null 1 L9");
        is("function f(a,n){if(n)f([],0);z=a;a=print}f({},1)", "L9 L35 L37 L38");
        is("function f(a,n){if(n){f([],0);z=a;return}a=print}f({},1)", "L9 L35 L38");
        is("function f(a,n){if(n){f([],0);z=a;return}a={}}f({},1)", "L35 L38 L39");
        Kit.sentence("variables as told: a parameter that has no argument, and others, are undefined");
        is("function f(a,b){z=b}f(1)", "undefined");
        is("function f(a,b){z=b}f(1,2)", "2");
        is("function f(a,b){z=b}f(1,2,3)", "2");
        is("function f(a,b){z=b}f(1);f(1,2)", "undefined 2");
        is("function f(a){var b;z=b}f(1,2)", "undefined");
        is("x=function f(a){z=f};x(1,2)", "L31");
        is("function f(){var b;z=b}f(1)", "undefined");
        is("function f(){z=v;var v=1}f()", "undefined");
        is("x=function f(){z=f};x()", "L31");
        is("x=function f(f){z=f};x()", "undefined");
        is("x=function f(){var f;z=f};x()", "L31");
        is("function f(){var f;z=f}f()", "undefined");
        ScriptTypes x = solved("function f(a,b){var c;1}f(5)");
        int one = find(x, "1", 0);
        Kit.check("the scope", Kit.field(x, one, 29, "a") + "/" + Kit.field(x, one, 29, "b") + "/" + Kit.field(x, one, 29, "c") + "/" + Kit.field(x, one, 29, "f") + "/" + x.link(one, 29, 0) + " "
            + x.link(one, 29, 2) + " " + x.link(one, 29, 3) + " " + x.link(one, -1, 3) + " " + x.height(one), "5/undefined/undefined/absent/0 1 0 536870912 0");
    }

    private static void gets() {
        Kit.sentence("GET o, p: TypeError with UNDEFINED or NULL in o. The result: with TRUE, FALSE, NAN, numbers in o UNDEFINED");
        String[][] values = {{"undefined", "5"}, {"null", "5"}, {"true", "0"}, {"false", "0"}, {"NaN", "0"}, {"5", "0"}, {"'a'", "0"}, {"{}", "8"}};
        for (String[] value : values) {
            ScriptTypes x = solved("v=" + value[0] + ";z=v.x");
            Kit.check("warns of GET of " + value[0], x.warns(find(x, "GET", 0)), value[1]);
            is("v=" + value[0] + ";z=v.x", value[1].equals("5") ? "not reached" : "undefined");
            is(any("v", value[0], "{x:1}") + "z=v.x", value[1].equals("5") ? "1" : "undefined 1");
        }
        Kit.sentence("with strings: for the key length the number (if o is ALONE; else ALL numbers), for other keys what is READ from label 4, UNDEFINED if they can be MISSED");
        is("z='abc'.length", "3");
        is("z=''.length", "0");
        is("for(k in 1)z=k.length", "NUM");
        is(any("v", "'abc'", "null") + "z=v.length", "NUM");
        is(any("v", "'abc'", "5") + "z=v.length", "undefined NUM");
        is(any("v", "'abc'", "{length:'q'}") + "z=v.length", "NUM 'q'");
        is(any("v", "'abc'", "'de'") + "z=v.length", "NUM");
        is("v='abc';z=v.charAt", "L22");
        is("v='abc';z=v.x", "undefined");
        is("v='abc';z=v[0]", "undefined");
        is("v='abc';z=v.constructor", "L12");
        is("v='abc';z=v.hasOwnProperty", "L21");
        is("#String.prototype.x='q';z='abc'.x", "undefined 'q'");
        is("String.prototype.x='q';z='abc'.x", "'q'");
        is("String.prototype.length='q';z='abc'.length", "3");
        is("String.prototype.length='q';for(k in 1)z='abc'[k]", "undefined 3 L12 L21 L22");
        is("v='abc';" + any("w", "'length'", "'length'") + "z=v[w]", "3");
        is("v='abc';" + any("w", "'length'", "'charAt'") + "z=v[w]", "undefined 3 L12 L21 L22");
        is("v='abc';" + any("w", "'length'", "null") + "z=v[w]", "undefined 3");
        Kit.sentence("with labels what is READ from them, UNDEFINED if they can be MISSED");
        is("o={p:1};z=o.p", "1");
        is("o={p:1};z=o.q", "undefined");
        is("o={p:1};" + any("w", "'p'", "null") + "z=o[w]", "undefined 1");
        is(any("o", "{p:1}", "{p:'s'}") + "z=o.p", "1 's'");
    }

    private static void puts() {
        Kit.sentence("PUT o, p, v: TypeError likewise; normal, if o has anything else");
        String[][] values = {{"undefined", "5"}, {"null", "5"}, {"true", "0"}, {"NaN", "0"}, {"5", "0"}, {"'a'", "0"}, {"{}", "0"}, {"print", "0"}};
        for (String[] value : values) {
            ScriptTypes x = solved("v=" + value[0] + ";z=v.x=1");
            Kit.check("warns of PUT of " + value[0], x.warns(find(x, "PUT", 0)), value[1]);
            is("v=" + value[0] + ";z=v.x=1", value[1].equals("5") ? "not reached" : "1");
            ScriptTypes y = solved(any("v", value[0], "null") + "v.x=1");
            Kit.check("warns of PUT of it or null", y.warns(find(y, "PUT", 0)), value[1].equals("5") ? 5 : 1);
        }
        Kit.sentence("(not by length to arrays' labels: 24 and those of ARRAYs' sites; whether there is one label and one key alone is asked ahead of that)");
        is("a=[];a.length='q';z=a.length", "0");
        is("a=Array();a.length='q';z=a.length", "0");
        is("a={};a.length='q';z=a.length", "'q'");
        is("function F(){}F.prototype=[];a=new F;a.length='q';z=a.length", "0 'q'");
        is("a=[];o={};" + any("v", "a", "o") + "v.length='q';z=o.length", "undefined 'q'");
        is("a=[];o={};" + any("v", "a", "o") + "v.length='q';z=a.length", "0");
        is("a=[];a.x=1;" + any("w", "'length'", "null") + "a[w]='q';z=a.length", "0");
        is("a=[];" + any("w", "'length'", "null") + "a[w]='q';z=a[null]", "undefined 'q'");
        is("Array.prototype.length='q';z=Array.prototype.length", "'q'");
        Kit.sentence("if a key is OTHER or an INDEX, the field length of each array's label among them is joined with ALL numbers");
        is("a=[];a[0]=1;z=a.length", "NUM");
        is("a=[];a[0]=1;z=a.length;'0'", "NUM");
        is("a=[];a[99]=1;z=a.length;'99'", "NUM");
        is("a=[];a[100]=1;z=a.length;'100'", "0");
        is("a=[];a[100]=1;z=a.length", "NUM");
        is("a=[];a['05']=1;z=a.length", "0");
        is("a=[];a['00']=1;z=a.length", "0");
        is("a=[];a['-1']=1;z=a.length", "0");
        is("a=[];a[-1]=1;z=a.length", "NUM");
        is("a=[];a['0']=1;z=a.length", "NUM");
        is("a=[];a['9']=1;z=a.length", "NUM");
        is("a=[];a['10']=1;z=a.length", "NUM");
        is("a=[];a['']=1;z=a.length", "0");
        is("a=[];a.x=1;z=a.length", "0");
        is("a=[];a[null]=1;z=a.length", "0");
        is("a=[];a[{}]=1;z=a.length", "0");
        is("a=[];for(k in 1)a[k]=1;z=a.length", "NUM");
        is("a=[];o={};" + any("v", "a", "o") + "v[0]=1;z=a.length", "NUM");
        is("a=[];o={};" + any("v", "a", "o") + "v[0]=1;z=o.length", "undefined");
        is("o={};o[0]=1;z=o.length", "undefined");
        is("a=Array();a[0]=1;z=a.length", "NUM");
        is("a=[];b=[];a[0]=1;z=b.length", "0");
    }

    private static void deletes() {
        Kit.sentence("DELETE: TypeError likewise; normal, if o has anything else: fields of these keys and labels (not length of arrays') become ABSENT, and EMPTY, too, where they would be what is "
            + "written alone");
        String[][] values = {{"undefined", "5"}, {"null", "5"}, {"true", "0"}, {"NaN", "0"}, {"5", "0"}, {"'a'", "0"}, {"{}", "0"}};
        for (String[] value : values) {
            ScriptTypes x = solved("v=" + value[0] + ";z=delete v.x");
            Kit.check("warns of DELETE of " + value[0], x.warns(find(x, "DELETE", 0)), value[1]);
            is("v=" + value[0] + ";z=delete v.x", value[1].equals("5") ? "not reached" : "true");
        }
        is("o={p:1};delete o.p;z=o.p", "undefined");
        is("o={p:1};delete o.q;z=o.p", "1");
        is("o={p:1};" + any("v", "o", "{}") + "delete v.p;z=o.p", "undefined 1");
        is("o={p:1};" + any("v", "o", "5") + "delete v.p;z=o.p", "undefined 1");
        is("o={p:1};" + any("w", "'p'", "null") + "delete o[w];z=o.p", "undefined 1");
        is("o={7:1};delete o[7];z=o[7]", "undefined");
        is("o={};o[7]=1;delete o[7];z=o[7]", "undefined 1");
        is("o={p:1};for(k in 1)delete o[k];z=o.p", "undefined 1");
        is("a=[1];delete a.length;z=a.length", "NUM");
        is("a=[];delete a.length;z=a.length", "0");
        is("a=[1];delete a[0];z=a[0];'0'", "undefined");
        Kit.sentence("TRUE; FALSE too, if there is an array's label and length among the keys (alone, if o is such labels alone and the keys length alone)");
        is("z=delete {}.p", "true");
        is("z=delete [].length", "false");
        is("z=delete Array().length", "false");
        is("z=delete [].x", "true");
        is("z=delete {}.length", "true");
        is(any("v", "[]", "Array()") + "z=delete v.length", "false");
        is(any("v", "[]", "{}") + "z=delete v.length", "true false");
        is(any("v", "[]", "5") + "z=delete v.length", "true false");
        is(any("v", "[]", "null") + "z=delete v.length", "true false");
        is(any("w", "'length'", "null") + "z=delete [][w]", "true false");
        is("for(k in 1)z=delete [][k]", "true false");
        is("for(k in 1)z=delete {}[k]", "true");
        is("z=delete Array.prototype.length", "true");
    }

    private static void unaries() {
        Kit.sentence("UNARY: Else + - : ALL numbers and NAN; ~ ALL numbers; ! TRUE if it may be false, FALSE if it may be true; typeof: strings by what there is");
        for (String set : new String[] {"{}", "print", "[]"}) {
            is("v=" + set + ";z=+v", "NaN NUM");
            is("v=" + set + ";z=-v", "NaN NUM");
            is("v=" + set + ";z=~v", "NUM");
            is("v=" + set + ";z=!v", "false");
        }
        is(any("v", "1", "2") + "z=+v", "NaN NUM");
        is(any("v", "true", "null") + "z=-v", "NaN NUM");
        is(any("v", "1", "2") + "z=~v", "NUM");
        is(any("v", "0", "null") + "z=!v", "true");
        is(any("v", "1", "'a'") + "z=!v", "false");
        is(any("v", "1", "null") + "z=!v", "true false");
        is(any("v", "1", "2") + "z=typeof v", "'number'");
        is(any("v", "1", "NaN") + "z=typeof v", "'number'");
        is(any("v", "null", "{}") + "z=typeof v", "'object'");
        is(any("v", "true", "false") + "z=typeof v", "'boolean'");
        is(any("v", "'a'", "'b'") + "z=typeof v", "'string'");
        is(any("v", "undefined", "null") + "z=typeof v", "STR");
        is(any("v", "{}", "print") + "z=typeof v", "STR");
        is(any("v", "1", "'a'") + "z=typeof v", "STR");
        is(any("v", "undefined", "undefined") + "z=typeof v", "'undefined'");
        Kit.sentence("(of labels function for 9 .. 22 and functions' objects, else object)");
        for (String f : new String[] {"print", "Object", "Array", "String", "isNaN", "Error", "TypeError", "ReferenceError", "RangeError", "[].push", "[].pop", "print.call", "{}.hasOwnProperty",
            "'a'.charAt", "function(){}"}) {
            is("v=" + f + ";z=typeof v", "'function'");
        }
        for (String o : new String[] {"{}", "[]", "Object()", "Array()", "Error()", "function(){}.prototype", "Object.prototype", "Array.prototype", "String.prototype", "Error.prototype",
            "RangeError.prototype", "RangeError()"}) {
            is("v=" + o + ";z=typeof v", "'object'");
        }
        is("function F(){}z=typeof new F", "'object'");
        is("function F(){z=typeof this}new F", "'object'");
        is("for(k in 1){var p=o,o=function(){}}if(p)z=typeof p", "STR");
        for (int sites = 1; sites < 8; sites++) {
            is("[];".repeat(sites) + "z=typeof {}", "'object'");
            is("function f(){}" + "[];".repeat(sites) + "z=typeof {}", "'object'");
            is("[];".repeat(sites) + "z=[].length", "0");
            is("[];".repeat(sites) + "v={};try{v()}catch(e){z=e}", "L26");
            is("[];".repeat(sites) + "o={};o[0]=1;z=o.length", "undefined");
        }
        is("for(k in 1){var p=print;for(j in 1)p=o;var o=function(){};o.x=p}o=o;for(k in 1)for(j in 1){var y=w;var w=function(){}}v=print;for(k in 1)if(y)v=v;z=typeof v", "'function'");
        Kit.sentence("TYPE GLOBAL: typeof of it, name 19 too if it may be ABSENT");
        is("z=typeof q", "'undefined'");
        is("q=1;z=typeof q", "'number'");
        is("#q=1;z=typeof q", "STR");
        is("#q=undefined;z=typeof q", "'undefined'");
        is("z=typeof print", "'function'");
    }

    private static void binaries() {
        Kit.sentence("BINARY: Else +: if one has strings or labels, ALL strings; if both have something else, ALL numbers and NAN. - * / %: these; << to ^ ALL numbers; 11 to 18 TRUE and FALSE.");
        is("z={}+1", "STR");
        is("z=1+{}", "STR");
        is("z={}+{}", "STR");
        is("for(k in 1)z=k+1", "STR");
        is("for(k in 1)z=1+k", "STR");
        is(any("v", "1", "2") + "z=v+1", "NaN NUM");
        is(any("v", "1", "2") + "z=v+'a'", "STR");
        is(any("v", "1", "'a'") + "z=v+1", "NaN NUM STR");
        is(any("v", "1", "'a'") + "z=1+v", "NaN NUM STR");
        is(any("v", "1", "{}") + "z=v+1", "NaN NUM STR");
        is(any("v", "'a'", "{}") + "z=v+1", "STR");
        is(any("v", "1", "'a'") + "z=v+'b'", "STR");
        is(any("v", "1", "'a'") + "z=v+v", "NaN NUM STR");
        is(any("v", "'b'", "'a'") + any("w", "1", "2") + "z=v+w", "STR");
        is(any("v", "undefined", "null") + "z=v+true", "NaN NUM");
        for (String sign : new String[] {"-", "*", "/", "%"}) {
            is(any("v", "1", "2") + "z=v" + sign + "2", "NaN NUM");
            is("z={}" + sign + "2", "NaN NUM");
            is("for(k in 1)z=2" + sign + "k", "NaN NUM");
        }
        for (String sign : new String[] {"<<", ">>", ">>>", "&", "|", "^"}) {
            is(any("v", "1", "2") + "z=v" + sign + "2", "NUM");
            is("z=2" + sign + "{}", "NUM");
        }
        for (String sign : new String[] {"==", "!=", "===", "!==", "<", ">", "<=", ">="}) {
            is(any("v", "1", "2") + "z=v" + sign + "2", "true false");
            is("z={}" + sign + "{}", "true false");
            is("z=null" + sign + "{}", "true false");
        }
    }

    private static void ins() {
        Kit.sentence("in: TypeError if the second one has anything but labels; with labels: TRUE, if some field that is READ is not EMPTY, FALSE if the keys of the first one can be MISSED");
        for (String value : new String[] {"undefined", "null", "true", "NaN", "5", "'a'"}) {
            is("z='a' in " + value, "not reached");
            ScriptTypes x = solved("'a' in " + value);
            Kit.check("warns of in " + value, x.warns(find(x, "BINARY", 0)), 5);
            ScriptTypes y = solved(any("v", value, "{a:1}") + "z='a' in v");
            Kit.check("warns of in " + value + " or an object", y.warns(find(y, "BINARY", 0)) + " " + top(y, find(y, "SETGLOBAL:z", 0)), "1 true");
        }
        is("z='a' in {a:1}", "true");
        is("z='b' in {a:1}", "false");
        is("o={};#o.a=1;z='a' in o", "true false");
        is("o={a:1};delete o.a;z='a' in o", "false");
        is("z='constructor' in {}", "true");
        is("z=7 in {}", "false");
        is("o={};o[7]=1;z=7 in o", "true false");
        is("o={};o[7]=1;z=8 in o", "true false");
        is("z=7 in {7:1}", "true");
        is("z={} in {'[object]':1}", "true");
        is("for(k in 1)z=k in {}", "true false");
        is(any("w", "'a'", "null") + "z=w in {a:1}", "true false");
        is(any("w", "'a'", "null") + "z=w in {a:1,null:2}", "true");
        is(any("v", "{a:1}", "{b:1}") + "z='a' in v", "true false");
        ScriptTypes x = solved("'a' in {}");
        Kit.check("no warning", x.warns(find(x, "BINARY", 0)), 0);
    }

    private static void instances() {
        Kit.sentence("instanceof: TypeError if the second one has anything but functions' labels, or what is READ by prototype from those has anything but labels, or can be MISSED");
        String[][] seconds = {{"undefined", "5"}, {"null", "5"}, {"5", "5"}, {"'a'", "5"}, {"{}", "5"}, {"[]", "5"}, {"print", "5"}, {"isNaN", "5"}, {"print.call", "5"}, {"Object", "0"},
            {"Error", "0"}, {"function(){}", "0"}, {"Object()", "5"}, {"Object.prototype", "5"}};
        for (String[] second : seconds) {
            ScriptTypes x = solved("w=" + second[0] + ";z=1 instanceof w");
            Kit.check("warns of instanceof " + second[0], x.warns(find(x, "BINARY", 0)) + " " + top(x, find(x, "SETGLOBAL:z", 0)), second[1].equals("5") ? "5 not reached" : "0 false");
            ScriptTypes y = solved(any("w", second[0], "Object") + "z=1 instanceof w");
            Kit.check("warns of instanceof it or Object", y.warns(find(y, "BINARY", 0)) + " " + top(y, find(y, "SETGLOBAL:z", 0)), second[1].equals("5") ? "1 false" : "0 false");
        }
        String[][] prototypes = {{"5", "5"}, {"null", "5"}, {"undefined", "5"}, {"'a'", "5"}, {"{}", "0"}, {"print", "0"}};
        for (String[] prototype : prototypes) {
            ScriptTypes x = solved("function F(){}F.prototype=" + prototype[0] + ";z={} instanceof F");
            Kit.check("warns with prototype " + prototype[0], x.warns(find(x, "BINARY", 0)) + " " + top(x, find(x, "SETGLOBAL:z", 0)), prototype[1].equals("5") ? "5 not reached" : "0 true false");
            ScriptTypes y = solved("function F(){}for(k in 1)F.prototype=" + prototype[0] + ";z={} instanceof F");
            Kit.check("warns with prototype " + prototype[0] + " perhaps", y.warns(find(y, "BINARY", 0)) + " " + top(y, find(y, "SETGLOBAL:z", 0)),
                (prototype[1].equals("5") ? "1" : "0") + " true false");
        }
        ScriptTypes m = solved("function F(){}for(k in 1)delete F.prototype;z={} instanceof F");
        Kit.check("prototype that can be MISSED", m.warns(find(m, "BINARY", 0)) + " " + top(m, find(m, "SETGLOBAL:z", 0)), "1 true false");
        ScriptTypes d = solved("function F(){}delete F.prototype;z={} instanceof F");
        Kit.check("prototype that is MISSED", d.warns(find(d, "BINARY", 0)), 5);
        Kit.sentence("FALSE; TRUE too, if the first one has labels and what is READ has some (no normal way, if it has none)");
        is("z={} instanceof Object", "true false");
        is("z={} instanceof Array", "true false");
        is("z=5 instanceof Object", "false");
        is("z=null instanceof Object", "false");
        is(any("v", "5", "{}") + "z=v instanceof Object", "true false");
    }

    private static void ways() {
        Kit.sentence("COPY, COPY TWO, UNDER: as told");
        is("o={k:5};z=o.k++", "5");
        is("o={k:5};o.k++;z=o.k", "6");
        is("o={k:5};z=++o.k", "6");
        is("o={k:5};z=o.k-=2", "3");
        is("o={k:'a'};z=o.k+='b';'ab'", "'ab'");
        is("o={k:5};o.k--;z=o.k", "4");
        is("x=5;z=x++", "5");
        is("x='5';z=x++", "5");
        is("x=5;x++;z=x", "6");
        is("o={k:{j:1}};o.k.j++;z=o.k.j", "2");
        is("z=[1,[2],{}][0];'0'", "1");
        is("o={k:5};o.k=7;z=o", "L29");
        Kit.sentence("UNLESS, AND, OR: both ways, as far as the value may be true, or false (AND and OR leave it whole).");
        is(any("v", "0", "1", "null") + "z=v&&'a'", "null NUM 'a'");
        is(any("v", "0", "1", "null") + "z=v||'a'", "null NUM 'a'");
        is(any("v", "true", "null") + "z=v&&'a'", "null true 'a'");
        is(any("v", "true", "null") + "z=v||'a'", "null true 'a'");
        is("z=0&&'a'", "0");
        is("z=1&&'a'", "'a'");
        is("z=0||'a'", "'a'");
        is("z=1||'a'", "1");
        is("z={}||'a'", "L29");
        is("z=1?2:3", "2");
        is("z=0?2:3", "3");
        Kit.sentence("THROW: thrown.");
        is("try{throw 5}catch(e){z=e}", "5");
        is("throw 5;z=1", "not reached");
        is("function f(){throw 5}try{f()}catch(e){z=e}", "5 L28");
    }

    private static void lists() {
        Kit.sentence("NAMES OF: a LIST. NEXT: with ALL strings on the stack to the next place; without the list to a.");
        is("for(k in 5)z=k", "STR");
        is("for(k in {a:1})z=k", "STR");
        is("for(k in 5);z=1", "1");
        ScriptTypes x = solved("for(k in 5)1;2");
        int next = find(x, "NEXT", 0);
        Kit.check("heights", x.height(next) + " " + x.height(next + 1) + " " + x.height(x.instruction(next, 1)) + " " + Kit.slot(x, next, 0) + "/" + x.slot(next, 0, 0) + "/" + Kit.slot(x, next + 1, 1),
            "1 2 0 /0/STR");
        Kit.check("warns", x.warns(next) + " " + x.warns(next - 1), "0 0");
    }

    private static void calls() {
        Kit.sentence("CALL: TypeError, if f has anything but functions' labels (natives', too, here and in instanceof)");
        String[][] values = {{"undefined", "5"}, {"null", "5"}, {"true", "5"}, {"NaN", "5"}, {"5", "5"}, {"'a'", "5"}, {"{}", "5"}, {"[]", "5"}, {"Object()", "5"}, {"print", "0"}, {"Object", "0"},
            {"function(){}", "0"}, {"function(){}.prototype", "5"}, {"Array.prototype", "5"}};
        for (String[] value : values) {
            ScriptTypes x = solved("v=" + value[0] + ";z=v()");
            Kit.check("warns of CALL of " + value[0], x.warns(find(x, "SETGLOBAL:z", 0) - 1), value[1]);
            ScriptTypes y = solved(any("v", value[0], "print") + "z=v()");
            Kit.check("warns of CALL of it or print", y.warns(find(y, "SETGLOBAL:z", 0) - 1), value[1].equals("5") ? 1 : 0);
        }
        Kit.sentence("For a function g among them (either label): RangeError; and its code is entered at its first place: the pair of its scope is MADE: an empty stack, THIS, SCOPE that latest scope");
        is("function f(){}try{f()}catch(e){z=e}", "L28");
        is("function f(){return 1}z=f()", "1");
        is("function f(){return 1}function g(){return 's'}" + any("v", "f", "g") + "z=v()", "1 's'");
        is("for(k in 1){var p=o,o=function(){return 1}}if(p)z=p()", "1");
        is("function f(){z=this}f()", "undefined");
        is("function f(){z=this}o={f:f};o.f()", "L35");
        is("function f(){z=this}o={f:f};o.f();f()", "undefined L35");
        is("function f(){z=this}f.call(5)", "5");
        ScriptTypes x = solved("function f(){1}[2,f()]");
        Kit.check("an empty stack", x.height(find(x, "1", 1)), 0);
        is("function f(a){z=a}for(k in 1){var g=function(){};f(g)}", "L37");
        is("function f(a){z=a;a()}f(f)", "undefined L31");
        Kit.sentence("(in all, arguments too): LINK the LINKs of g's labels in f");
        is("function f(){var a=1;return function(b){return b}}g=f();z=g(g)", "L37");
        is("x=function f(n){if(n)n(0);z=n};x(x)", "0 L31");
        ScriptTypes r = solved("function f(a){return function(){return a}}g=f(1);h=f(2);g()");
        int load = find(r, "LOAD1:a", 0);
        Kit.check("LINKs of the scope", r.link(load, 35, 3), 1L << 30);
        ScriptTypes at1 = solved("function f(a){return function(){return a}}g=f(1);h=f(2);" + any("v", "g", "h") + "v()");
        Kit.check("LINKs of both at once", at1.link(find(at1, "LOAD1:a", 0), 35, 3), (1L << 29) + (1L << 30));
        ScriptTypes far = solved("function d(){}".repeat(6) + "function f(a){return function(){return a}}g=f(1);h=f(2);" + any("v", "g", "h") + "v()");
        Kit.check("LINKs of both at once, behind 64", far.link(find(far, "LOAD1:a", 0), 71, 4) + " " + far.link(find(far, "LOAD1:a", 0), 71, 3), 6 + " 0");
        ScriptTypes both = solved("function f(a){return function(){return a}}g=f(1);h=f(2);g();h()");
        load = find(both, "LOAD1:a", 0);
        Kit.check("LINKs of both", both.link(load, 35, 3), (1L << 29) + (1L << 30));
    }

    private static void ends() {
        Kit.sentence("From g's end (what RETURNs have, joined): behind the CALL, with all labels as they are there, the result, and the stack, THIS and SCOPE of ahead of the CALL, AGED.");
        is("function f(a){if(a)return 1;return 's'}z=f(0)", "'s'");
        is("function f(a){#return 1;return 's'}z=f(0)", "1 's'");
        is("function f(a){#return 1}z=f(0)", "undefined 1");
        is("function f(){o.p='s'}o={p:1};f();z=o.p", "'s'");
        is("function f(){return []}o=f();p=f();z=o", "L36");
        ScriptTypes x = solved("function f(){[]}x=[];x.p=f()");
        int put = find(x, "PUT", 0);
        Kit.check("the stack, AGED", Kit.slot(x, put, 0), "L35 L36");
        ScriptTypes s = solved("function f(){return {}}[f(),f()]");
        put = find(s, "PUT", 1);
        Kit.check("the array, AGED", Kit.slot(s, put, 0) + "/" + Kit.slot(s, put, 3), "L35 L36/L37");
        ScriptTypes edge = solved("function d(){}".repeat(4) + "function f(){}[];[];[f()]");
        Kit.check("labels 63 and 64, AGED", Kit.slot(edge, find(edge, "PUT", 0), 0), "L63 L64");
        ScriptTypes last = solved("function d(){}".repeat(5) + "function f(){}print(f.prototype,f())");
        Kit.check("a prototype object of 63 and 64, AGED", Kit.slot(last, find(last, "CALL2", 0), 2), "L63 L64");
        ScriptTypes before = solved("function d(){}".repeat(4) + "function f(){}[];[f()]");
        Kit.check("labels 61 and 62, AGED", Kit.slot(before, find(before, "PUT", 0), 0), "L61 L62");
        ScriptTypes behind = solved("function d(){}".repeat(4) + "function f(){}[];[];[];[f()]");
        Kit.check("labels 65 and 66, AGED", Kit.slot(behind, find(behind, "PUT", 0), 0), "L65 L66");
        ScriptTypes t = solved("function g(){}function F(){g();return this}z=new F");
        int self = find(t, "THIS", 0);
        Kit.check("THIS and SCOPE, AGED", Kit.slot(t, self, -1) + " " + t.link(self, -1, 3), "L41 L42 " + ((1L << 35) + (1L << 36)));
        ScriptTypes n = solved("function F(){print();return this}z=new F");
        self = find(n, "THIS", 0);
        Kit.check("natives AGE nothing", Kit.slot(n, self, -1) + " " + n.link(self, -1, 3), "L35 " + (1L << 29));
        Kit.sentence("From its THROWN END likewise thrown in the caller. (All calls of a function are joined.)");
        is("function f(){throw 5}try{f()}catch(e){z=e}", "5 L28");
        is("function f(a){throw a}try{f(1)}catch(e){}try{f('s')}catch(e){z=e}", "1 's' L28");
        is("function f(){o.p='s';throw 1}o={p:1};try{f()}catch(e){z=o.p}", "1 's'");
        is("function g(){}function f(){o.p='s';throw 1}o={p:1};try{g(f())}catch(e){z=o.p}", "1 's'");
        is("function g(){o.p='t'}function f(){o.p='s';throw 1}o={p:1};try{f();g()}catch(e){z=o.p}", "1 's'");
        is("function f(a){return a}f(1);z=f('s')", "1 's'");
        is("function f(a){return a}z=f('s');f(1)", "1 's'");
        ScriptTypes e = solved("function f(a){if(a)f(0);throw 1}f(1)");
        Kit.check("thrown ends", Kit.result(e, 1, 1) + "/" + Kit.result(e, 0, 1) + "/" + Kit.result(e, 1, 0) + "/" + Kit.result(e, 0, 0), "1 L28/1 L28//");
    }

    private static void makers() {
        Kit.sentence("print UNDEFINED. Object: ADD label 23 (PROTO 1): that. Array: ADD 24 (PROTO 3, length 0): that. String: TEXT (30 without an argument).");
        is("z=print()", "undefined");
        is("z=print(1,2)", "undefined");
        is("z=Object(5)", "L23");
        is("z=Array(5)", "L24");
        is("z=Array(5).length", "0");
        is("z=String()", "''");
        is("z=String('q',5)", "'q'");
        Kit.sentence("isNaN: FOLD, if ALONE (UNDEFINED without one), else TRUE and FALSE.");
        is("z=isNaN()", "true");
        String[][] values = {{"undefined", "true"}, {"null", "false"}, {"true", "false"}, {"false", "false"}, {"NaN", "true"}, {"5", "false"}, {"''", "false"}, {"'5'", "false"}, {"'x'", "true"},
            {"'2147483648'", "true"}, {"{}", "true false"}, {"print", "true false"}};
        for (String[] value : values) {
            is("z=isNaN(" + value[0] + ")", value[1]);
        }
        is("for(k in 1)z=isNaN(k)", "true false");
        is(any("v", "1", "2") + "z=isNaN(v)", "true false");
        is("z=isNaN(5,'x')", "false");
        Kit.sentence("14 to 17: ADD 25 to 28 (PROTO 5 to 8; message, if there is an argument, its TEXT, not ABSENT): that.");
        String[] names = {"Error", "TypeError", "ReferenceError", "RangeError"};
        for (int i = 0; i < 4; i++) {
            is("z=" + names[i] + "()", "L" + (25 + i));
            is("z=" + names[i] + "().message", "undefined");
            is("z=" + names[i] + "('m').message", "'m'");
            is("z=" + names[i] + "(undefined).message", "'undefined'");
            is("z=" + names[i] + "(5).message", "STR");
            is("z=" + names[i] + "().name", "'" + names[i] + "'");
            is("z=new " + names[i] + "('m').message", "'m'");
            is(names[i] + "();z=" + names[i] + "('m').message", "undefined 'm'");
            ScriptTypes x = solved(names[i] + "();z=1");
            int k = find(x, "SETGLOBAL:z", 0);
            Kit.check("PROTO", x.link(k, 25 + i, 0) + " " + Kit.field(x, k, 25 + i, "message"), (1L << 5 + i) + " absent");
        }
    }

    private static void arrayNatives() {
        Kit.sentence("push, pop: TypeError, if this has anything but arrays' labels");
        for (String value : new String[] {"undefined", "5", "'a'", "{}", "Object()", "Array.prototype", "print", "null"}) {
            for (String name : new String[] {"push", "pop"}) {
                ScriptTypes x = solved("v=" + value + ";z=[]." + name + ".call(v)");
                Kit.check(name + " of " + value, x.warns(find(x, "SETGLOBAL:z", 0) - 1) + " " + top(x, find(x, "SETGLOBAL:z", 0)), "5 not reached");
                ScriptTypes y = solved(any("v", value, "[]") + "z=[]." + name + ".call(v)");
                Kit.check(name + " of " + value + " or an array", y.warns(find(y, "SETGLOBAL:z", 0) - 1) + " " + top(y, find(y, "SETGLOBAL:z", 0)), name.equals("pop") ? "1 undefined" : "1 NUM");
            }
        }
        ScriptTypes ok = solved("[].push(1);Array().push(2);[].pop()");
        Kit.check("no warnings", ok.warns(find(ok, "CALL1", 0)) + " " + ok.warns(find(ok, "CALL1", 1)) + " " + ok.warns(find(ok, "CALL0", 1)), "0 0 0");
        Kit.sentence("push: their fields of all INDEX names, of 100, and OTHER are joined with the argument, length with ALL numbers: ALL numbers");
        for (String key : new String[] {"0", "5", "99", "100"}) {
            is("a=[];a.push('q');z=a[" + key + "];'" + key + "'", "undefined 'q'");
            is("a=[];a.push();z=a[" + key + "];'" + key + "'", "undefined");
        }
        for (String key : new String[] {"101", "-1", "05", "099", "x", "1000"}) {
            is("a=[];a.push('q');z=a['" + key + "']", "undefined");
        }
        is("a=[];a.push('q');z=a[7]", "undefined 'q'");
        is("a=[];a.push('q');z=a.x", "undefined");
        is("a=[];a.push('q');z=a.length", "NUM");
        is("a=[];z=a.push('q')", "NUM");
        is("a=[];a.push('q',null);z=a[0];'0'", "undefined 'q'");
        ScriptTypes p = solved("a=[];a.push();z=1;'0'");
        Kit.check("without an argument UNDEFINED is joined", Kit.field(p, find(p, "SETGLOBAL:z", 0), 29, "0"), "undefined absent");
        is("a=[{}];a.push(print);z=a[0];'0'", "L9 L31");
        is("a=[{}];a.push([]);z=a[0];'0'", "L31 L33");
        is("a=[];o={};" + any("v", "a", "o") + "a.push.call(v,'q');z=o[0];'0'", "undefined");
        is("a=[];o={length:'q'};" + any("v", "a", "o") + "a.push.call(v,'q');z=o.length", "'q'");
        is("a=[];o={0:1};" + any("v", "a", "o") + "a.pop.call(v);z=o[0]", "1");
        is("a=[];b=[];" + any("v", "a", "b") + "a.push.call(v,'q');z=b[0];'0'", "undefined 'q'");
        is("a=[];a.p=1;a.push('q');z=a.p", "1");
        is("a=[];b=[];a.push('q');z=b[0];'0'", "undefined");
        Kit.sentence("pop: the join of their fields of all INDEX names and OTHER, and UNDEFINED; these may all be ABSENT then, length is joined with ALL numbers");
        is("a=[1];z=a.pop();'0'", "undefined 1");
        is("a=[1];z=a.pop()", "undefined 1");
        is("a=[1,'s'];z=a.pop();'0'+'1'", "undefined 1 's'");
        is("a=[{},[]];z=a.pop();'0'+'1'", "undefined L31 L33");
        is("a=[{},print];z=a.pop();'0'+'1'", "undefined L9 L31");
        is("a=[];a['100']='s';z=a.pop()", "undefined");
        is("a=[];a['05']='s';a.p='t';z=a.pop()", "undefined");
        is("a=[];a[99]='s';z=a.pop();'99'", "undefined 's'");
        is("a=[1];a.pop();z=a[0];'0'", "undefined 1");
        is("a=[];a['100']='s';a.pop();z=a['100']", "'s'");
        is("a=[1];a.pop();z=a.length", "NUM");
        is("a=[];a.pop();z=a.length", "NUM");
        is("a=[];a.p='t';a.pop();z=a.p", "'t'");
    }

    private static void objectNatives() {
        Kit.sentence("hasOwnProperty: TypeError, if this has anything but labels; TRUE, if a field of the KEYS is not EMPTY, FALSE if one may be ABSENT.");
        for (String value : new String[] {"undefined", "null", "true", "NaN", "5", "'a'"}) {
            ScriptTypes x = solved("v=" + value + ";z={}.hasOwnProperty.call(v,'a')");
            Kit.check("of " + value, x.warns(find(x, "CALL", 0)) + " " + top(x, find(x, "SETGLOBAL:z", 0)), "5 not reached");
            ScriptTypes y = solved(any("v", value, "{a:1}") + "z={}.hasOwnProperty.call(v,'a')");
            Kit.check("of " + value + " or an object", y.warns(find(y, "CALL", 0)) + " " + top(y, find(y, "SETGLOBAL:z", 0)), "1 true");
        }
        is("z={a:1}.hasOwnProperty('a')", "true");
        is("z={a:1}.hasOwnProperty('b')", "false");
        is("z={}.hasOwnProperty('constructor')", "false");
        is("z=[].hasOwnProperty('length')", "true");
        is("z={}.hasOwnProperty()", "false");
        is("z={undefined:1}.hasOwnProperty()", "true");
        is("z={a:1}.hasOwnProperty(7)", "false");
        is("o={};o[7]=1;z=o.hasOwnProperty(8)", "true false");
        is("o={};#o.a=1;z=o.hasOwnProperty('a')", "true false");
        is("for(k in 1)z={a:1}.hasOwnProperty(k)", "true false");
        is("for(k in 1)z={}.hasOwnProperty(k)", "false");
        is(any("v", "{a:1}", "{}") + "z=v.hasOwnProperty('a')", "true false");
        is(any("v", "{a:1}", "{a:2}") + "z=v.hasOwnProperty('a')", "true");
        Kit.sentence("charAt: TypeError, if this has anything but strings; with them ALL strings.");
        for (String value : new String[] {"undefined", "null", "true", "NaN", "5", "{}", "print"}) {
            ScriptTypes x = solved("v=" + value + ";z='a'.charAt.call(v,0)");
            Kit.check("charAt of " + value, x.warns(find(x, "CALL", 0)) + " " + top(x, find(x, "SETGLOBAL:z", 0)), "5 not reached");
            ScriptTypes y = solved(any("v", value, "'b'") + "z='a'.charAt.call(v,0)");
            Kit.check("charAt of " + value + " or a string", y.warns(find(y, "CALL", 0)) + " " + top(y, find(y, "SETGLOBAL:z", 0)), "1 STR");
        }
        for (String text : new String[] {"'abc'.charAt(1)", "for(k in 1)k.charAt(1)", any("v", "'a'", "'b'") + "v.charAt(1)", "({}).hasOwnProperty(1)", "[].hasOwnProperty(1)", "[].push(1)",
            "Array().pop()", "print.call(1)", "isNaN(1)", "String(1)", "Object(1)", "Error(1)"}) {
            ScriptTypes x = solved(text);
            Kit.check("warns of " + text, x.warns(find(x, "CALL", 0)), 0);
        }
        is("z='abc'.charAt(1)", "STR");
        is("z='abc'.charAt()", "STR");
        is("for(k in 1)z=k.charAt(0)", "STR");
    }

    private static void callNative() {
        Kit.sentence("call: as CALL of this, with the first argument as this, and the others (and so on: without arguments this is UNDEFINED, so that it ends).");
        is("function f(a,b){z=this}f.call(1,2,3)", "1");
        is("function f(a,b){z=a}f.call(1,2,3)", "2");
        is("function f(a,b){z=b}f.call(1,2,3)", "3");
        is("function f(a,b){z=b}f.call(1,2)", "undefined");
        is("function f(a,b){z=this}f.call()", "undefined");
        is("z=String.call(1,'q')", "'q'");
        is("z=String.call(1)", "''");
        is("z=String.call.call(String,1,'q')", "'q'");
        is("z=String.call.call.call(String,1,'q')", "'q'");
        is("z=print.call.call()", "not reached");
        is("z=print.call.call.call(print.call)", "not reached");
        is("z=print.call.call(5)", "not reached");
        ScriptTypes x = solved("print.call.call();1");
        Kit.check("warns", x.warns(find(x, "CALL", 0)), 5);
        ScriptTypes y = solved("print.call(1,2);f.call(1);function f(){}");
        Kit.check("no warnings", y.warns(find(y, "CALL2", 0)) + " " + y.warns(find(y, "CALL1", 0)), "0 0");
        is("function f(){}try{f.call()}catch(e){z=e}", "L28");
        is("p=print.call;" + any("v", "p", "print") + "z=v.call(String,1)", "undefined ''");
    }

    private static void news() {
        Kit.sentence("NEW: TypeError, if f has anything but labels of functions of code and the natives 10, 11, 12, 14 to 17.");
        for (String value : new String[] {"undefined", "null", "true", "NaN", "5", "'a'", "{}", "[]", "print", "isNaN", "[].push", "[].pop", "print.call", "{}.hasOwnProperty", "'a'.charAt"}) {
            ScriptTypes x = solved("v=" + value + ";z=new v");
            Kit.check("new " + value, x.warns(find(x, "NEW", 0)) + " " + top(x, find(x, "SETGLOBAL:z", 0)), "5 not reached");
            ScriptTypes y = solved(any("v", value, "Object") + "z=new v");
            Kit.check("new " + value + " or Object", y.warns(find(y, "NEW", 0)) + " " + top(y, find(y, "SETGLOBAL:z", 0)), "1 L23");
        }
        for (String value : new String[] {"Object", "Array", "String", "Error", "TypeError", "ReferenceError", "RangeError", "function(){}"}) {
            ScriptTypes x = solved("v=" + value + ";z=new v");
            Kit.check("new " + value, x.warns(find(x, "NEW", 0)), 0);
        }
        Kit.sentence("Of these natives as CALL.");
        is("z=new Object(5)", "L23");
        is("z=new Array(5).length", "0");
        is("z=new String(null)", "'null'");
        is("z=new String", "''");
        is("z=new RangeError(null).message", "'null'");
        Kit.sentence("For functions: the site's pair is MADE (in all): PROTO the labels that are READ by prototype from f's functions' labels (of code), and 1, if what is READ has anything else, or "
            + "can be MISSED");
        String[][] prototypes = {{"F.prototype={};", "37"}, {"F.prototype=5;", "1"}, {"F.prototype=null;", "1"}, {"F.prototype=print;", "9"}, {"delete F.prototype;", "1"}, {"", "33"},
            {"for(k in 1)F.prototype=5;", "1 33"}, {"for(k in 1)delete F.prototype;", "1 33"}, {"for(k in 1)F.prototype=Array.prototype;", "3 33"}};
        for (String[] prototype : prototypes) {
            ScriptTypes x = solved("function F(){1}z=new F;" + prototype[0] + "z=new F");
            int site = 35 + 2 * (x.count(4) - 1);
            int k = find(x, "SETGLOBAL:z", 1);
            StringBuilder s = new StringBuilder();
            for (int l = 0; l < 64; l++) {
                s.append((x.link(k, site, 0) >>> l & 1) == 0 ? "" : (s.length() == 0 ? "" : " ") + l);
            }
            Kit.check("PROTO behind " + prototype[0], s + " " + x.link(k, site, 2), prototype[1] + " 0");
        }
        Kit.sentence("then RangeError, and as CALL with that latest label as this");
        is("function F(){}try{new F}catch(e){z=e}", "L28");
        is("function F(){z=this}new F", "L35");
        is("function F(a){z=a}new F(5)", "5");
        ScriptTypes r = solved("function F(){}try{new F}catch(e){z=1}");
        int set = find(r, "SETGLOBAL:z", 0);
        Kit.check("made ahead of RangeError", r.link(set, 35, 5), 1);
        Kit.sentence("the result: the labels of g's; and the site's both labels, if that has anything but labels");
        is("function F(){}z=new F", "L35 L36");
        is("function F(){return 5}z=new F", "L35 L36");
        is("function F(){return null}z=new F", "L35 L36");
        is("function F(){return print}z=new F", "L9");
        is("function F(){return {}}z=new F", "L37");
        is("function F(){#return print}z=new F", "L9 L35 L36");
        is("function F(){return this}z=new F", "L35");
        is("function F(){}function G(){return print}" + any("v", "F", "G", "Object") + "z=new v", "L9 L23 L41 L42");
    }

    private static void heights() {
        Kit.sentence("height: How many sets are on the stack ahead of instruction k; NONE if it is not reached, or nothing is solved.");
        ScriptTypes x = solved("o={k:[1]};o.k++;o.k+=f(2,3);delete o.k;-(o&&1)");
        StringBuilder s = new StringBuilder();
        for (int k = 0; k < x.count(0); k++) {
            s.append(x.height(k)).append(' ');
        }
        Kit.check("heights of a script that ends at f", s.toString().trim(),
            "0 1 2 3 4 5 6 7 5 4 2 1 1 0 1 2 4 3 3 4 5 4 2 1 0 1 2 4 3 4" + " -1".repeat(x.count(0) - 30));
        for (String text : new String[] {"o={k:[1,2]};o.k++;--o.k;o.k+=f(2,3);o[1]-=4;function f(a){a=a;a++;return typeof a}", "for(k in {a:1,b:2})try{[k,q]}catch(e){}finally{1}",
            "function F(a){this.a=a;return}new F(new F(1));delete new F(2).a;typeof q;typeof F;1?2:3;0||1;1&&2;void 0;1 in [];({}) instanceof Object",
            "function f(){for(k in {a:1})try{return k}finally{break}}f()+f();switch(1){case 2:default:3}do{}while(0);try{throw 1}catch(e){print(1,2,e)}",
            "function f(){while(1)try{for(k in {a:1})return 2}finally{break}}f();print.call(1,2);x=[function(){return -1}];x[0]()"}) {
            heightsAsMachine(text);
        }
    }

    private static void heightsAsMachine(String text) {
        ScriptTypes x = solved(text);
        x.begin();
        while (x.count(6) == 1) {
            int k = x.frame(0, 1);
            Kit.check("height at " + k + " of " + text, x.height(k), x.frame(0, 2));
            x.run(1);
        }
        Kit.check("end of " + text, x.count(6), 2);
    }

    private static void reached() {
        Kit.sentence("REACHED is what has a state. solve: how many instructions are REACHED.");
        String[][] scripts = {{"", "2"}, {"1", "4"}, {"throw 1;2", "2"}, {"while(1);", "3"}, {"for(;;);", "1"}, {"if(0)1;2", "6"}, {"if(1)1;else 2", "7"}, {"function f(){1}", "5"},
            {"function f(){1}f()", "13"}, {"q;1", "1"}};
        for (String[] script : scripts) {
            ScriptTypes x = Kit.script(script[0]);
            int n = x.solve();
            Kit.check("reached of " + script[0], n + " " + x.count(12), script[1] + " " + script[1]);
            int with = 0;
            for (int k = 0; k < x.count(0); k++) {
                with += x.height(k) >= 0 ? 1 : 0;
                Kit.check("height and warns at " + k + " of " + script[0], x.height(k) >= 0, x.warns(k) >= 0);
                Kit.check("THERE at " + k + " of " + script[0], x.link(k, 0, 5), x.height(k) >= 0 ? 1 : 0);
            }
            Kit.check("heights of " + script[0], with, n);
        }
    }

    private static void flags() {
        Kit.sentence("warns: 1 if it may throw an ERROR TypeError (its own, or a native's that it calls, not one of code that it calls) + 2 ReferenceError");
        String[][] scripts = {{"null.x", "GET", "5"}, {"q", "GLOBAL:q", "6"}, {"for(k in 1)q=1;q", "GLOBAL:q", "2"}, {"q=1;q", "GLOBAL:q", "0"}, {"typeof q", "TYPEGLOBAL", "0"},
            {"function f(){null.x}f()", "CALL", "4"}, {"function f(){q}f()", "CALL", "4"}, {"function f(){for(k in 1)null.x}f()", "CALL", "0"}, {"[].pop.call(5)", "CALL", "5"},
            {"'a'.charAt.call(5)", "CALL", "5"}, {"function f(){}f()", "CALL", "0"}, {"5()", "CALL", "5"}, {"new 5", "NEW", "5"}, {"function F(){throw 1}new F", "NEW", "4"},
            {"1 in 2", "BINARY", "5"}, {"1 instanceof 2", "BINARY", "5"}, {"delete null.x", "DELETE", "5"}, {"null.x=1", "PUT", "5"}, {"TypeError()", "CALL", "0"},
            {"throw 1", "THROW", "4"}, {"throw TypeError()", "THROW", "4"}, {"1", "RETURN", "0"}, {"1", "DROP", "0"}, {"while(1);", "JUMP", "0"}, {"if(0)1", "UNLESS", "0"},
            {"if(1)1", "UNLESS", "0"}, {"0&&1", "AND", "0"}, {"1||0", "OR", "0"}, {"for(k in 1);", "NEXT", "0"}, {"try{}catch(e){}", "TRY", "0"}, {"try{}catch(e){}", "LEAVE", "0"},
            {"-{}", "UNARY", "0"}, {"({})+1", "BINARY", "0"}, {"function f(){f()}f()", "CALL", "4"}};
        for (String[] script : scripts) {
            ScriptTypes x = solved(script[0]);
            Kit.check("warns at " + script[1] + " of " + script[0], x.warns(find(x, script[1], 0)), script[2]);
        }
        Kit.sentence("+ 4 if there is no normal way on (RETURN has one; one of two is enough)");
        ScriptTypes both = solved(any("v", "print", "5") + "v()");
        Kit.check("one of two", both.warns(find(both, "CALL", 0)), 1);
        ScriptTypes native1 = solved("function f(){throw 1}" + any("v", "f", "[].pop") + "v.call(5)");
        Kit.check("none of two", native1.warns(find(native1, "CALL", 0)), 5);
        Kit.sentence("+ 8 if it is a GET whose result is UNDEFINED alone, with labels in o");
        String[][] gets = {{"o={};o.x", "8"}, {"o={x:1};o.x", "0"}, {"o={x:undefined};o.x", "8"}, {"o=5;o.x", "0"}, {"o='a';o.x", "0"}, {any("o", "{}", "5") + "o.x", "8"},
            {any("o", "{}", "null") + "o.x", "9"}, {"o={};for(k in 1)o.x=1;o.x", "0"}, {"o=null;o.x", "5"}, {any("o", "'a'", "{}") + "o.x", "8"}, {any("o", "'a'", "{}") + "o.length", "0"},
            {"o=true;o.x", "0"}, {any("o", "true", "null") + "o.x", "1"}};
        for (String[] get : gets) {
            ScriptTypes x = solved(get[0]);
            Kit.check("warns at GET of " + get[0], x.warns(find(x, "GET", 0)), get[1]);
        }
        ScriptTypes p = solved("o={};o.x=undefined;delete o.x;o.x");
        Kit.check("8 of GET alone", p.warns(find(p, "PUT", 0)) + " " + p.warns(find(p, "DELETE", 0)) + " " + p.warns(find(p, "GET", 0)), "0 0 8");
    }

    private static void asking() {
        Kit.sentence("slot: 1 UNDEFINED + 2 NULL + 4 TRUE + 8 FALSE + 16 NAN + 32 one number + 64 ALL numbers + 128 one string + 256 ALL strings; 1 the number (0), 2 the name (0), 3, 4 labels; 0 else");
        String[][] sets = {{"undefined", "1 0 0 0 0"}, {"null", "2 0 0 0 0"}, {"true", "4 0 0 0 0"}, {"false", "8 0 0 0 0"}, {"NaN", "16 0 0 0 0"}, {"0", "32 0 0 0 0"}, {"7", "32 7 0 0 0"},
            {"-2147483647-1", "32 -2147483648 0 0 0"}, {"''", "128 0 30 0 0"}, {"'length'", "128 0 0 0 0"}, {"'a'", "128 0 32 0 0"}, {"print", "0 0 0 512 0"}, {"{}", "0 0 0 536870912 0"}};
        for (String[] set : sets) {
            ScriptTypes x = solved("z=" + set[0]);
            int k = find(x, "SETGLOBAL:z", 0);
            Kit.check("slot of " + set[0], x.slot(k, 0, 0) + " " + x.slot(k, 0, 1) + " " + x.slot(k, 0, 2) + " " + x.slot(k, 0, 3) + " " + x.slot(k, 0, 4), set[1]);
            int r = x.count(0) - 1;
            Kit.check("field of " + set[0], x.field(r, 0, 31, 0) + " " + x.field(r, 0, 31, 1) + " " + x.field(r, 0, 31, 2) + " " + x.field(r, 0, 31, 3) + " " + x.field(r, 0, 31, 4), set[1]);
            Kit.check("no other what", x.slot(k, 0, 5) + " " + x.slot(k, 0, -1) + " " + x.field(r, 0, 31, 5) + " " + x.field(r, 0, 31, -1), "0 0 0 0");
        }
        ScriptTypes all = solved(any("v", "undefined", "null", "true", "false", "NaN", "1", "2", "'a'", "'b'", "{}") + "z=v");
        int k = find(all, "SETGLOBAL:z", 0);
        Kit.check("all of them", all.slot(k, 0, 0) + " " + all.slot(k, 0, 1) + " " + all.slot(k, 0, 2) + " " + all.slot(k, 0, 3), (31 + 64 + 256) + " 0 0 536870912");
        ScriptTypes absent = solved("for(k in 1);z=1");
        int set1 = find(absent, "SETGLOBAL:z", 0);
        Kit.check("a field that may be ABSENT", absent.field(set1, 0, Kit.name(absent, "k"), 0) + " " + absent.field(set1, 0, Kit.name(absent, "z"), 0), (256 + 512) + " 512");
        Kit.check("slots", all.slot(k, 1, 0) + " " + all.slot(k, -1, 0) + " " + all.slot(k, -2, 0), "0 1 0");
        Kit.sentence("field: told likewise; n NAMES' number: OTHER; 0 if there is none such, or it is not there");
        ScriptTypes o = solved("o={};o[7]='a';z=1");
        k = find(o, "SETGLOBAL:z", 0);
        int other = o.count(2);
        Kit.check("OTHER", Kit.field(o, k, 29, other) + "/" + o.field(k, 29, other + 1, 0) + "/" + o.field(k, 30, 0, 0) + "/" + o.field(k, 31, 0, 0) + "/" + o.field(k, -1, 0, 0) + "/"
            + o.field(k, 29, -1, 0), "'a' absent/0/0/0/0/0");
        Kit.sentence("link: 0, 1 its PROTO's labels as bits; 2 whether that may be null (1); 3, 4 LINK; 5 whether it is THERE (1). 0 if there is none such. For l -1: 3, 4 SCOPE.");
        ScriptTypes x = solved("function f(){return function(){1}}g=f();g()");
        int one = find(x, "1", 0);
        Kit.check("of labels", x.link(one, 37, 0) + " " + x.link(one, 37, 1) + " " + x.link(one, 37, 2) + " " + x.link(one, 37, 3) + " " + x.link(one, 37, 4) + " " + x.link(one, 37, 5) + " "
            + x.link(one, 37, 6) + " " + x.link(one, 37, -1), "4 0 0 536870912 0 1 0 0");
        Kit.check("of SCOPE", x.link(one, -1, 0) + " " + x.link(one, -1, 1) + " " + x.link(one, -1, 2) + " " + x.link(one, -1, 3) + " " + x.link(one, -1, 4) + " " + x.link(one, -1, 5),
            "0 0 0 " + (1L << 35) + " 0 0");
        Kit.check("of none", x.link(one, 41, 5) + " " + x.link(one, 40, 5) + " " + x.link(one, -2, 3) + " " + x.link(one, 38, 5), "0 0 0 0");
        ScriptTypes far = solved("function a(){}".repeat(5) + "function b(){}".repeat(2) + "function f(p){return function(){return p}}g=f([]);z=g();function F(){}F.prototype=z;w=new F;v=g");
        k = find(far, "SETGLOBAL:v", 0);
        Kit.check("labels from 64 on", far.link(k, 91, 0) + " " + far.link(k, 91, 1) + " " + far.link(k, 79, 3) + " " + far.link(k, 79, 4) + " " + far.link(k, 73, 3) + " " + far.link(k, 73, 4) + " "
            + far.slot(k, 0, 3) + " " + far.slot(k, 0, 4), "0 " + (1L << 89 - 64) + " 0 " + (1L << 71 - 64) + " 0 0 0 " + (1L << 79 - 64));
        Kit.sentence("result: What function f RETURNs (how 0), what is thrown out of it (1), told as a set; 0 if there is no such one, it never does, or nothing is solved.");
        ScriptTypes r = solved("function f(a){if(a)throw 's';return 5}function g(){return print}f(0);f(1)");
        Kit.check("results", Kit.result(r, 1, 0) + "/" + Kit.result(r, 1, 1) + "/" + Kit.result(r, 2, 0) + "/" + Kit.result(r, 0, 0) + "/" + Kit.result(r, 0, 1) + "/" + r.result(3, 0, 0) + r.result(-1, 0, 0)
            + r.result(1, 2, 0) + r.result(1, -1, 0) + r.result(1, 0, 5) + r.result(1, 0, -1), "5/'s'//undefined/'s' L28/000000");
        ScriptTypes unsolved = Kit.script("throw 1");
        Kit.check("ahead of solve", unsolved.result(0, 1, 0) + " " + unsolved.result(0, 0, 0), "0 0");
        unsolved.solve();
        Kit.check("behind it", unsolved.result(0, 1, 0) + " " + unsolved.result(0, 1, 1) + " " + unsolved.result(0, 0, 0), "32 1 0");
    }
}
