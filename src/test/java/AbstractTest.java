/** Promises 16 to 22: the abstract machine. */
public final class AbstractTest {
    private AbstractTest() {
    }

    public static void main(String[] args) {
        solving();
        sets();
        folds();
        signs();
        reading();
        writing();
        arrays();
        functions();
        natives();
        constructions();
        errors();
        sizes();
        Kit.end("AbstractTest");
    }

    private static ScriptTypes solved(String text) {
        ScriptTypes x = Kit.script(text);
        x.solve();
        return x;
    }

    /** The place of the n-th instruction (from 0 on) that is told so. */
    private static int find(ScriptTypes x, String instruction, int n) {
        int left = n;
        for (int k = 0; k < x.count(0); k++) {
            if (Kit.instruction(x, k).startsWith(instruction) && left-- == 0) {
                return k;
            }
        }
        Kit.check("no instruction " + instruction + " " + n, Kit.code(x), "");
        return 0;
    }

    /** The set on top of the stack behind the statement that sets z. */
    private static void is(String text, String want) {
        ScriptTypes x = solved(text);
        int k = find(x, "SETGLOBAL:z", 0);
        Kit.check("z of " + text, x.height(k) < 0 ? "not reached" : Kit.slot(x, k, x.height(k) - 1), want);
    }

    // Promises 16 and 5
    private static void solving() {
        ScriptTypes x = Kit.script("a=1;throw a;b=2");
        Kit.check("nothing is solved", x.count(12) + " " + x.height(0) + " " + x.warns(0) + " " + x.slot(0, -1, 0) + " " + x.field(0, 1, 2, 3) + " "
            + x.link(0, 1, 5) + " " + x.result(0, 1, 0), "-1 -1 -1 0 0 0 0");
        Kit.check("solve", x.solve() + " " + x.solve() + " " + x.count(12), "5 5 5");
        Kit.check("heights", x.height(0) + " " + x.height(1) + " " + x.height(4) + " " + x.height(5) + " " + x.height(-1) + " " + x.height(99), "0 1 1 -1 -1 -1");
        Kit.check("warns", x.warns(0) + " " + x.warns(3) + " " + x.warns(4) + " " + x.warns(5) + " " + x.warns(-1) + " " + x.warns(99), "0 0 4 -1 -1 -1");
        Kit.check("results", Kit.result(x, 0, 0) + "/" + Kit.result(x, 0, 1) + "/" + x.result(1, 0, 0) + x.result(-1, 0, 0) + x.result(0, 2, 0)
            + x.result(0, -1, 0) + x.result(0, 1, 5) + x.result(0, 1, -1), "/1/000000");
        x.begin();
        x.run(2000);
        Kit.check("the machine changes nothing of it", x.count(12) + " " + Kit.result(x, 0, 1), "5 1");
        ScriptTypes y = solved("x=2;if(x){a=1}else{b=1}");
        Kit.check("one way alone", y.height(find(y, "SETGLOBAL:a", 0)) + " " + y.height(find(y, "SETGLOBAL:b", 0)), "1 -1");
    }

    // Promise 18
    private static void sets() {
        is("z=undefined", "undefined");
        is("z=null", "null");
        is("z=true", "true");
        is("z=-7", "-7");
        is("z='s'", "'s'");
        is("z={}", "L29");
        is("i=0;for(;;){z=i;i++}", "NaN NUM");
        is("for(k in {})z=k", "STR");
        is("for(i=1;i<2;i++);z=i", "NaN NUM");
        is("a=[1];a[0]=null;a[b='x']=true;z=a[0]", "undefined null 1");
        is("for(k in {})if(k)z=1", "1");
        ScriptTypes x = solved("a=-5;b='q';a+b;{}");
        int k = find(x, "BINARY", 0);
        Kit.check("a number", x.slot(k, 0, 0) + " " + x.slot(k, 0, 1) + " " + x.slot(k, 0, 2) + " " + x.slot(k, 0, 3) + " " + x.slot(k, 0, 4), "32 -5 0 0 0");
        Kit.check("a string", x.slot(k, 1, 0) + " " + x.slot(k, 1, 1) + " " + x.slot(k, 1, 2), "128 0 " + Kit.name(x, "q"));
        Kit.check("no set", x.slot(k, 2, 0) + " " + x.slot(k, -2, 0) + " " + x.slot(k, 0, 5) + " " + x.slot(k, 0, -1) + " " + x.slot(-1, 0, 0)
            + " " + x.slot(999, 0, 0), "0 0 0 0 0 0");
        Kit.check("this", Kit.slot(x, k, -1), "undefined");
        ScriptTypes y = solved("for(k in 5){}");
        Kit.check("a LIST is empty", y.slot(find(y, "NEXT", 0), 0, 0) + " " + y.height(find(y, "NEXT", 0)), "0 1");
        ScriptTypes v = solved("for(i=0;i<9;i++){x=function(){return 1};[[],[],[],[],[],[],[],[],[],[],[],[],[],[],{}]};z=[]");
        int z = find(v, "SETGLOBAL:z", 0);
        Kit.check("a label from 64 on", v.slot(z, 0, 3) + " " + v.slot(z, 0, 4), "0 " + (1L << 67 - 64));
        Kit.check("label 63 and 64", v.link(z, 63, 5) + " " + v.link(z, 64, 5), "1 1");
    }

    private static void folds() {
        is("z='a'+1", "STR");
        is("z='a'+1;'a1'", "'a1'");
        is("z=1+2*3-4/2%3", "5");
        is("z=1/0", "NaN");
        is("z=2147483647+1", "-2147483648");
        is("z=typeof 5+typeof q", "STR");
        is("z=typeof q", "'undefined'");
        is("z=typeof print", "'function'");
        is("if({}.q)q=1;z=typeof q", "'undefined'");
        is("for(k in 1)q=1;z=typeof q", "STR");
        is("for(k in 1)q='undefined';z=typeof q", "STR");
        is("for(k in 1)q=undefined;z=typeof q", "'undefined'");
        is("z=~'5'", "-6");
        is("z=-undefined", "NaN");
        is("z=!''", "true");
        is("z=!{}", "false");
        is("for(k in 1)z=!k", "true false");
        is("for(k in 1)z=-k", "NaN NUM");
        is("for(k in 1)z=~k", "NUM");
        is("for(k in 1)z=typeof k", "'string'");
        is("for(k in 1)z=k+1", "STR");
        is("i=1;for(k in 1)i=k;z=i+1", "NaN NUM STR");
        is("i=1;for(k in 1)i=null;z=i+1", "NaN NUM");
        is("for(k in 1)z=k*2", "NaN NUM");
        is("for(k in 1)z=k<<2", "NUM");
        is("for(k in 1)z=k==2", "true false");
        is("z={}=={}", "true false");
        is("z=null==undefined", "true");
        is("z=NaN===NaN", "false");
        is("z='b'>'a'", "true");
        is("z='12345678901234567890123456789012345678'+'12345678901234567890123456789012345678'", "STR");
    }

    private static void signs() {
        is("z='p' in {p:1}", "true");
        is("z='q' in {p:1}", "false");
        is("for(k in 1)z=k in {p:1}", "true false");
        is("z='x' in 5", "not reached");
        is("z='constructor' in {}", "true");
        is("z={} instanceof Object", "true false");
        is("z=5 instanceof Object", "false");
        is("z=5 instanceof print", "not reached");
        is("z=5 instanceof {}", "not reached");
        is("z=1&&'a'", "'a'");
        is("z=0&&'a'", "0");
        is("z=0||'a'", "'a'");
        is("for(k in 1)z=k&&5", "5 STR");
        is("z=1?2:3", "2");
        is("for(k in 1)z=k?2:3", "NUM");
        is("z=void 5", "undefined");
    }

    private static void reading() {
        is("z={p:1}.p", "1");
        is("z={p:1}.q", "undefined");
        is("z='abc'.length", "3");
        is("for(k in 1)z=k.length", "NUM");
        is("z='abc'.charAt", "L22");
        is("for(k in 1)z='abc'[k]", "undefined 3 L12 L21 L22");
        is("z=true.x", "undefined");
        is("z=NaN.length", "undefined");
        is("z=null.x", "not reached");
        is("i=null;for(k in 1)i={x:1};z=i.x", "1");
        is("Object.prototype.q=4;z={}.q", "4");
        is("z={}.constructor", "L10");
        is("z=[].constructor", "L11");
        is("z={5:1}[5]", "1");
        is("z={5:1}[6]", "undefined");
        is("z={'[object]':1}[{}]", "1");
        is("z={undefined:1,NaN:2}[NaN]", "2");
        is("for(i=0;;i++)z={5:'x','-7':'x',q:0}[i]", "undefined 'x'");
        ScriptTypes x = solved("o={p:1};o.q;o.p;(5).x");
        Kit.check("warns of undefined alone", x.warns(find(x, "GET", 0)) + " " + x.warns(find(x, "GET", 1)) + " " + x.warns(find(x, "GET", 2)), "8 0 0");
    }

    private static void writing() {
        is("o={p:1};o.p=2;z=o.p", "2");
        is("o={p:1};delete o.p;z=o.p", "undefined");
        is("o={p:1};z=delete o.p", "true");
        is("for(i=0;i<2;i++)o={p:1};o.p=2;z=o.p", "2");
        is("for(i=0;i<2;i++){u=o;var o={p:1};if(u)u.p=2;}z=o.p", "1");
        is("for(i=0;i<2;i++){var u=o,o={p:1}}if(u)u.p='x';z=u.p", "1 'x'");
        is("for(i=0;i<2;i++){var u=o,o={p:1}}if(u){u.p='x';z=u.p}", "1 'x'");
        is("for(i=0;i<2;i++){var u=o,o={p:1}}if(u){delete u.p;z=u.p}", "undefined 1");
        is("o={p:1};for(k in 1){o[k]=2;z=o.p}", "NUM");
        is("o={p:1};for(k in 1)o[k]='x';z=o.p", "1 'x'");
        is("o={p:1};i=o;for(k in 1)i='s';i.p='x';z=o.p", "1 'x'");
        is("(5).x=1;z=1", "1");
        is("null.x=1;z=1", "not reached");
        is("z=delete(5).x", "true");
        is("z=delete null.x", "not reached");
        ScriptTypes x = solved("o={p:1};for(k in 1)o[k]=2;z=1");
        int k = find(x, "SETGLOBAL:z", 0);
        Kit.check("fields", Kit.field(x, k, 29, "p") + "/" + Kit.field(x, k, 29, "length") + "/" + Kit.field(x, k, 29, x.count(2)) + "/"
            + Kit.field(x, k, 0, "o") + "/" + Kit.field(x, k, 0, "z"), "NUM/2 absent/2 absent/L29/absent");
        Kit.check("no field", x.field(k, 29, x.count(2) + 1, 0) + " " + x.field(k, 29, -1, 0) + " " + x.field(k, 31, 0, 0) + " " + x.field(k, -1, 0, 0) + " "
            + x.field(k, 30, 0, 0) + " " + x.field(-1, 29, 0, 0) + " " + x.field(k, 29, 0, 9), "0 0 0 0 0 0 0");
        Kit.check("flags of a field", x.field(k, 29, 0, 0) + " " + x.field(k, 29, 0, 1), "544 2");
        ScriptTypes y = solved("a={};for(i=0;i<2;i++)b={p:a};z=b");
        k = find(y, "SETGLOBAL:z", 0);
        Kit.check("latest and older", Kit.field(y, k, 31, "p") + "/" + Kit.field(y, k, 32, "p") + "/" + Kit.field(y, k, 0, "b") + "/" + y.link(k, 30, 5),
            "L29/L29/absent L31/0");
    }

    private static void arrays() {
        is("a=[1,2];z=a.length", "NUM");
        is("a=[];z=a.length", "0");
        is("a=[];a.length=5;z=a.length", "0");
        is("a=[];a.x=1;z=a.length", "0");
        is("a=[];a[7]=1;z=a.length", "NUM");
        is("a=[];a[100]=1;z=a.length;'100'", "0");
        is("a=[];a[100]=1;z=a.length", "NUM");
        is("z=delete[].length", "false");
        is("for(k in 1)z=delete[][k]", "true false");
        is("o=[];for(k in 1)o={};z=delete o.length", "true false");
        is("a=[1,2];z=a[1];'1'", "2");
        is("a=[1,'s'];z=a[1]", "undefined 1 's'");
        is("a=[];a.push(5);z=a[0];'0'", "undefined 5");
        is("a=[];a.push();z=a['100']", "undefined");
        is("a=[1];a.push('x');z=a['100']", "undefined 'x'");
        is("a=[1];z=a.push('x')", "NUM");
        is("a=[1,2];z=a.pop();'0'+'1'", "undefined NUM");
        is("a=[5];a.pop();z=a[0];'0'", "undefined 5");
        is("a=[];z=a.pop.call({})", "not reached");
        is("a=[];for(k in 1)a={};z=[].pop.call(a)", "undefined");
        is("a=[];a.push=7;z=a.push", "7");
        ScriptTypes x = solved("for(i=0;i<2;i++)a=[i];z=a");
        int k = find(x, "SETGLOBAL:z", 0);
        Kit.check("protos", x.link(k, 29, 0) + " " + x.link(k, 29, 1) + " " + x.link(k, 29, 2) + " " + x.link(k, 30, 0) + " " + x.link(k, 1, 0) + " "
            + x.link(k, 1, 2) + " " + x.link(k, 5, 0) + " " + x.link(k, 6, 0), "8 0 0 8 0 1 2 32");
    }

    private static void functions() {
        is("function f(){}z=f()", "undefined");
        is("function f(a){return a}z=f(5)", "5");
        is("function f(a){return a}f('x');z=f(5)", "5 'x'");
        is("function f(a){return a}z=f()", "undefined");
        is("function f(n){return n?f(n-1):0}z=f(3)", "0");
        is("function f(){f()}f();z=1", "not reached");
        is("function f(){throw 5}f();z=1", "not reached");
        is("function f(){throw 5}try{f()}catch(e){z=e}", "5 L28");
        is("function f(){return this}z=f()", "undefined");
        is("function f(){return this}z={f:f}.f()", "L35");
        is("x=function f(){return f};z=x()", "L31");
        is("x=function f(f){return f};z=x(1)", "1");
        is("x=function f(){var f;return f};z=x()", "L31");
        is("function k(){var n=0;return function(){return n=n+1}}a=k();z=a()", "1");
        is("function k(){var n=0;return function(){return n}}a=k();b=k();z=a()", "0");
        is("for(i=0;i<2;i++){var f=function(){};var g=h;var h=f}z=g", "undefined L32");
        is("z=5()", "not reached");
        is("for(k in 1)print();z=1", "1");
        ScriptTypes x = solved("function f(a,b){var c=1;b=function g(){return a};return b()}z=f('s');f(5)");
        int k = find(x, "LOAD1:a", 0);
        Kit.check("scopes", x.link(k, -1, 3) + " " + x.link(k, -1, 4) + " " + x.link(k, -1, 0) + " " + x.link(k, 35, 3) + " " + x.link(k, 35, 2) + " "
            + x.link(k, 35, 0) + " " + x.link(k, 37, 3) + " " + x.link(k, 31, 3), (1L << 35) + " 0 0 " + (1L << 29) + " 1 0 " + (1L << 29) + " 0");
        Kit.check("scopes' fields", Kit.field(x, k, 29, "a") + "/" + Kit.field(x, k, 29, "b") + "/" + Kit.field(x, k, 29, "c") + "/"
            + Kit.field(x, k, 29, "length") + "/" + Kit.field(x, k, 35, "g"), "5 's'/L37/1/absent/L37");
        Kit.check("results", Kit.result(x, 2, 0) + "/" + Kit.result(x, 1, 0) + "/" + Kit.result(x, 0, 0) + "/" + Kit.result(x, 1, 1), "5 's'/5 's'/undefined/L28");
        ScriptTypes y = solved("function f(){return function(){}}a=f();f();z=a;b=1");
        k = find(y, "SETGLOBAL:z", 0);
        Kit.check("a global that the second call renamed", Kit.field(y, k, 0, "a"), "absent L38");
        ScriptTypes v = solved("function f(){[]}x=[];x.p=f()");
        k = find(v, "PUT", 0);
        Kit.check("aged", Kit.slot(v, k, 0) + "/" + Kit.slot(v, k, 2), "L35 L36/undefined");
        Kit.check("warns of calls", solved("function f(){null.x}f()").warns(5) + " " + solved("f()").warns(1) + " " + solved("print()").warns(2), "4 6 0");
    }

    private static void natives() {
        is("z=print(1)", "undefined");
        is("z=Object()", "L23");
        is("z=Array()", "L24");
        is("z=Array().length", "0");
        is("z=String()", "''");
        is("z=String(5)", "STR");
        is("z=String(5);'5'", "'5'");
        is("z=String({})", "'[object]'");
        is("z=String(null)", "'null'");
        is("z=isNaN()", "true");
        is("z=isNaN('5')", "false");
        is("z=isNaN({})", "true false");
        is("z=Error('m').message", "'m'");
        is("z=Error().message", "undefined");
        is("Error();z=Error('m').message", "undefined 'm'");
        is("z=TypeError(5)", "L26");
        is("z='abc'.charAt(1)", "STR");
        is("z=''.charAt.call(5)", "not reached");
        is("z={p:1}.hasOwnProperty('p')", "true");
        is("z={p:1}.hasOwnProperty('q')", "false");
        is("z={p:1}.hasOwnProperty()", "false");
        is("for(k in 1)z={p:1}.hasOwnProperty(k)", "true false");
        is("z={}.hasOwnProperty.call(5,'x')", "not reached");
        is("z=String.call(1,2);'2'", "'2'");
        is("z=String.call.call(String,1,2);'2'", "'2'");
        is("z=String.call.call.call()", "not reached");
        is("function f(a){return this+a}z=f.call(1,2)", "3");
        ScriptTypes x = solved("({}).hasOwnProperty.call(5);1");
        Kit.check("warns of natives", x.warns(find(x, "CALL", 0)), 5);
        ScriptTypes y = solved("a=[1];if(a.pop()){a={}}a.push=[].push;a.push(1)");
        Kit.check("both ways", y.warns(find(y, "CALL", 1)), 1);
    }

    private static void constructions() {
        is("function F(){}z=new F", "L35 L36");
        is("function F(){return 5}z=new F", "L35 L36");
        is("function F(){return {}}z=new F", "L37");
        is("function F(){for(k in 1)return {};return 1}z=new F", "L35 L36 L37");
        is("function F(a){this.a=a}z=new F(5).a", "5");
        is("function F(a){this.a=a}for(i=0;i<2;i++){var p=o,o=new F(i)}z=p.a", "NaN NUM");
        is("function F(){}F.prototype={q:1};z=new F().q", "1");
        is("function F(){}F.prototype=5;z=new F().q", "undefined");
        is("z=new Array().length", "0");
        is("z=new Error(5).name", "'Error'");
        is("z=new print", "not reached");
        is("z=new isNaN", "not reached");
        is("z=new 5", "not reached");
        is("z=new String(5);'5'", "'5'");
        ScriptTypes x = solved("function F(){}F.prototype=Array.prototype;for(i=0;i<2;i++)z=new F");
        int k = find(x, "SETGLOBAL:z", 0);
        Kit.check("what NEW made", Kit.slot(x, k, 0) + "/" + x.link(k, 35, 0) + "/" + x.link(k, 36, 0) + "/" + x.link(k, 35, 2) + "/" + x.link(k, 35, 5),
            "L35 L36/8/8/0/1");
        ScriptTypes y = solved("function F(){}F.prototype=5;z=new F");
        Kit.check("PROTO of no object", y.link(find(y, "SETGLOBAL:z", 0), 35, 0), 2);
        Kit.check("this of a construction", Kit.slot(y, find(y, "undefined", 1), -1), "L35");
    }

    private static void errors() {
        is("try{null.x}catch(e){z=e}", "L26");
        is("try{q}catch(e){z=e.name}", "'ReferenceError'");
        is("try{throw 5}catch(e){z=e}", "5");
        is("try{for(k in 1){if(k)throw 's';throw 5}}catch(e){z=e}", "5 's'");
        is("try{a=1}catch(e){z=e}", "not reached");
        is("try{throw 1}finally{z=2}", "not reached");
        is("try{throw 1}finally{2}z=1", "not reached");
        is("try{throw 1}catch(e){}finally{z=2}", "2");
        ScriptTypes x = solved("try{null.x}catch(e){a=e}q;throw 7");
        int k = find(x, "SETGLOBAL:a", 0);
        Kit.check("an error's label", x.link(k, 26, 5) + " " + x.link(k, 26, 0) + " " + x.link(k, 27, 5) + " " + Kit.field(x, k, 26, "message"), "1 64 0 absent");
        Kit.check("what the script throws", Kit.result(x, 0, 1), "L27");
        Kit.check("warns", x.warns(find(x, "GET", 0)) + " " + x.warns(find(x, "GLOBAL:q", 0)) + " " + x.warns(find(x, "TRY", 0)), "5 6 0");
        ScriptTypes y = solved("for(k in 1)q=1;q;i=null;for(k in 1)i={};i.x;i.x=1;delete i.x");
        Kit.check("warns of one way of two", y.warns(find(y, "GLOBAL:q", 0)) + " " + y.warns(find(y, "GET", 0)) + " " + y.warns(find(y, "PUT", 0)) + " "
            + y.warns(find(y, "DELETE", 0)) + " " + y.warns(y.count(0) - 1), "2 9 1 1 0");
        ScriptTypes v = solved("function f(){return}f();while(1);a");
        Kit.check("RETURN and JUMP have a way", v.warns(find(v, "RETURN", 1)) + " " + v.warns(find(v, "JUMP", 0)) + " " + v.warns(find(v, "CALL", 0)), "0 0 0");
    }

    // stacks so high that what is made at first does not do
    private static void sizes() {
        ScriptTypes largest = solved("length;".repeat(248));
        Kit.check("the largest script", largest.count(0) + " " + largest.count(12) + " " + largest.field(497, 0, 31, 0) + " " + largest.link(497, 22, 5)
            + " " + Kit.field(largest, 497, 17, "prototype"), "498 1 0 0 ");
        largest = solved("length=1;" + "length;".repeat(246));
        Kit.check("the largest script that ends", largest.count(0) + " " + largest.count(12) + " " + largest.field(496, 0, 31, 0) + " "
            + largest.link(496, 22, 5) + " " + Kit.field(largest, 496, 17, "prototype"), "497 497 512 1 L8");
        StringBuilder names = new StringBuilder("z='x';");
        for (int i = 0; i < 57; i++) {
            names.append("'n").append(i).append("';");
        }
        ScriptTypes many = solved(names + "for(z in 1);");
        int last = many.count(0) - 1;
        Kit.check("90 names", many.count(2) + " " + Kit.field(many, last, 0, 31) + "/" + Kit.field(many, last, 0, 89) + "/" + Kit.field(many, last, 0, 90)
            + "/" + Kit.field(many, last, 0, 91), "90 STR/absent/absent/");
        StringBuilder s = new StringBuilder("z=");
        for (int i = 0; i < 18; i++) {
            s.append("a(1,2,3,4,5,6,7,1|2^3&4==5<6<<7+8*");
        }
        s.append("5");
        for (int i = 0; i < 18; i++) {
            s.append(")");
        }
        ScriptTypes x = Kit.script("length=1;" + s.toString().replace("a(", "print("));
        Kit.check("solve of a high stack", x.solve(), x.count(0));
        int highest = 0;
        for (int k = 0; k < x.count(0); k++) {
            highest = Math.max(highest, x.height(k));
        }
        Kit.check("the highest stack", highest, 18 * 17 + 1);
        x.begin();
        Kit.check("run with a high stack", x.run(2000) + " " + x.count(6), x.count(0) + " 2");
    }
}
