/** Promises 8 to 15: the machine. */
public final class MachineTest {
    private MachineTest() {
    }

    public static void main(String[] args) {
        running();
        values();
        signs();
        objects();
        functionsAndErrors();
        natives();
        lists();
        looking();
        noRoom();
        Kit.end("MachineTest");
    }

    private static void output(String text, String want) {
        Kit.check("output of " + text, Kit.output(text), want);
    }

    private static void prints(String expression, String want) {
        output("print(" + expression + ")", want + "/ended");
    }

    // Promises 8, 9 and 5
    private static void running() {
        ScriptTypes x = Kit.script("a=1");
        Kit.check("run before begin", Kit.outcome(() -> x.run(1)), "IllegalStateException");
        Kit.check("a wrong n goes first", Kit.outcome(() -> x.run(2001)), "IllegalArgumentException");
        Kit.check("counts before begin", x.count(6) + " " + x.count(7) + " " + x.count(8) + " " + x.count(9) + " " + x.count(11), "0 0 0 0 0");
        x.begin();
        Kit.check("counts after begin", x.count(6) + " " + x.count(7) + " " + x.count(8) + " " + x.count(9) + " " + x.count(10) + " " + x.count(11),
            "1 0 23 32 0 1");
        Kit.check("run(-1)", Kit.outcome(() -> x.run(-1)), "IllegalArgumentException");
        Kit.check("run(0)", x.run(0), 0);
        Kit.check("run(2)", x.run(2) + " " + x.count(7) + " " + x.frame(0, 1), "2 2 2");
        Kit.check("run(2000)", x.run(2000) + " " + x.count(7) + " " + x.count(6) + " " + x.count(11), "3 5 2 0");
        Kit.check("run when it has stopped", Kit.outcome(() -> x.run(0)), "IllegalStateException");
        Kit.check("a wrong n goes first then, too", Kit.outcome(() -> x.run(-1)), "IllegalArgumentException");
        x.begin();
        Kit.check("it begins anew", x.count(6) + " " + x.count(7) + " " + x.run(2000), "1 0 5");
        ScriptTypes y = Kit.script("for(;;);");
        y.begin();
        Kit.check("it goes on", y.run(2000) + " " + y.run(7) + " " + y.count(6) + " " + y.count(7), "2000 7 1 2007");
    }

    private static void values() {
        prints("undefined+'|'+null+'|'+true+'|'+false+'|'+NaN+'|'+-7+'|'+'s'+'|'+{}", "undefined|null|true|false|NaN|-7|s|[object]");
        prints("-2147483647-1", "-2147483648");
        prints("+''+'|'+ +'12'+'|'+ +'-5'+'|'+ +'007'", "0|12|-5|7");
        prints("+'-'+'|'+ +'1a'+'|'+ +' 1'+'|'+ +'--1'", "NaN|NaN|NaN|NaN");
        prints("+'2147483647'+'|'+ +'2147483648'+'|'+ +'-2147483648'+'|'+ +'-2147483649'", "2147483647|NaN|-2147483648|NaN");
        prints("+'0000000001'+'|'+ +'00000000001'", "1|NaN");
        prints("+undefined+'|'+ +null+'|'+ +true+'|'+ +false+'|'+ +{}+'|'+ +[]", "NaN|0|1|0|NaN|NaN");
        prints("!undefined+'|'+!null+'|'+!false+'|'+!0+'|'+!NaN+'|'+!''+'|'+!'0'+'|'+![]+'|'+!-1", "true|true|true|true|true|true|false|false|false");
        prints("typeof undefined+typeof null+typeof true+typeof NaN+typeof 1+typeof ''", "undefinedobjectbooleannumbernumberstring");
        prints("typeof {}+typeof []+typeof print+typeof function(){}+typeof q", "objectobjectfunctionfunctionundefined");
        prints("-''+'|'+-'x'+'|'+~NaN+'|'+~5+'|'+~{}", "0|NaN|-1|-6|-1");
        prints("-(-2147483647-1)", "-2147483648");
    }

    private static void signs() {
        prints("1+'2'+3+null", "123null");
        prints("1+true+'|'+(null+null)+'|'+(undefined+1)", "2|0|NaN");
        prints("2147483647+1+'|'+2147483647*2+'|'+(-2-2147483647)", "-2147483648|-2|2147483647");
        prints("7/2+'|'+-7/2+'|'+7%-4+'|'+-7%4+'|'+1/0+'|'+1%0+'|'+(-2147483647-1)/-1", "3|-3|3|-3|NaN|NaN|-2147483648");
        prints("(1<<33)+'|'+(-1>>1)+'|'+(-1>>>28)+'|'+(-1>>>0)+'|'+(NaN|6)+'|'+('12'&8)+'|'+(5^{})", "2|-1|15|-1|6|8|5");
        prints("(null==undefined)+'|'+(null==0)+'|'+(null==null)+'|'+(undefined===null)", "true|false|true|false");
        prints("('1'==1)+'|'+(true==1)+'|'+(true=='1')+'|'+(false=='')+'|'+('x'==NaN)+'|'+(NaN==NaN)", "true|true|true|true|false|false");
        prints("({}=={})+'|'+([]=='')+'|'+(print==print)+'|'+(print===print)+'|'+({}==1)", "false|false|true|true|false");
        prints("(1==='1')+'|'+('a'==='a')+'|'+(NaN===NaN)+'|'+(true===true)+'|'+(1!=='1')+'|'+(NaN!=NaN)", "false|true|false|true|true|true");
        prints("('a'<'b')+'|'+('a'<'aa')+'|'+('b'<'aa')+'|'+('10'<'9')+'|'+('10'<9)+'|'+('x'<1)+'|'+(''<'a')", "true|true|false|true|false|false|true");
        prints("(1<=1)+'|'+(1>=2)+'|'+(2>1)+'|'+(undefined<=undefined)+'|'+(null>=false)", "true|false|true|false|true");
        prints("('p' in {p:1})+'|'+('q' in {p:1})+'|'+(1 in [5,6])+'|'+(2 in [5,6])+'|'+('hasOwnProperty' in [])", "true|false|true|false|true");
        output("try{1 in 5}catch(e){print(e.name)}", "TypeError/ended");
        prints("([] instanceof Array)+'|'+([] instanceof Object)+'|'+({} instanceof Array)+'|'+(5 instanceof Object)", "true|true|false|false");
        output("try{5 instanceof {}}catch(e){print(e.name)}try{5 instanceof print}catch(e){print(e.name)}", "TypeError/TypeError/ended");
        prints("(a=5,a+++a)+'|'+(a-- - --a)+'|'+a", "11|2|4");
        prints("0||'x'&&null||7", "7");
        output("a='12345678901234567890123456789012345678';print(a+a)", "123456789012345678901234567890123456781234567890123456789012/ended");
    }

    private static void objects() {
        prints("{a:1}.a", "1");
        output("o={p:1};o.q=o.p+1;o['r']=3;delete o.p;print(o.p+'|'+o.q+o.r);print(delete o.p)", "undefined|23/true/ended");
        output("a=[7,8];print(a.length);a[5]=1;print(a.length);a.length=0;print(a.length);print(delete a.length)", "2/6/6/false/ended");
        output("a=[];a[99]=1;print(a.length);a[100]=2;print(a.length+a[100]);a['05']=1;print(a.length)", "100/102/100/ended");
        output("a=[];a['3']=1;print(a.length);a[-1]=1;print(a.length)", "4/4/ended");
        prints("'abc'.length+'abc'.charAt(1)+'abc'[1]", "3bundefined");
        prints("true.x+'|'+(5).x+'|'+NaN.length", "undefined|undefined|undefined");
        output("(5).x=1;'s'.x=2;print(delete true.x);print('s'.x)", "true/undefined/ended");
        output("null.x", "uncaught #23");
        output("try{null.x}catch(e){print(e.name)}try{undefined.x=1}catch(e){print(e.name)}try{delete null.x}catch(e){print(e.name)}",
            "TypeError/TypeError/TypeError/ended");
        output("Object.prototype.z=4;print([].z+'s'.z+print.z)", "12/ended");
        output("try{q}catch(e){print(e.name+e.message)}", "ReferenceErrorundefined/ended");
        output("x=1;Array.prototype.p=2;a=[];print(a.p);a.p=3;print(a.p);delete a.p;print(a.p)", "2/3/2/ended");
    }

    private static void functionsAndErrors() {
        output("function f(a,b){return a+'|'+b}print(f(1));print(f(1,2,3))", "1|undefined/1|2/ended");
        output("x=function f(n){return n?n*f(n-1):1};print(x(5));print(typeof f)", "120/undefined/ended");
        output("x=function f(f){return f};print(x(5))", "5/ended");
        output("x=function f(){var f;return typeof f};print(x())", "function/ended");
        output("function f(){f=1;return typeof f}print(f())", "number/ended");
        output("function C(a){this.a=a}C.prototype.b=2;o=new C(1);print(o.a+o.b);print(o instanceof C);print(o.constructor===C)", "3/true/true/ended");
        output("function C(){return {k:1}}print(new C().k);function D(){return 5}print(typeof new D)", "1/object/ended");
        output("function C(){}C.prototype=5;print(new C().hasOwnProperty('x'))", "false/ended");
        output("try{new print}catch(e){print(e.name)}try{new isNaN}catch(e){print(e.name)}try{new 5}catch(e){print(e.name)}", "TypeError/TypeError/TypeError/ended");
        output("function f(){return this}print(f());print(f.call(7));print({g:f}.g().hasOwnProperty('g'))", "undefined/7/true/ended");
        output("function r(n){return n<1?0:1+r(n-1)}print(r(22));try{r(23)}catch(e){print(e.name)}", "22/RangeError/ended");
        output("function k(){var n=0;return function(){return ++n}}a=k();b=k();a();print(a()+'|'+b())", "2|1/ended");
        output("function f(){try{return 1}finally{print('f')}}print(f())", "f/1/ended");
        output("function f(){try{return 1}finally{return 2}}print(f())", "2/ended");
        output("function f(){for(k in {p:1})try{return k}finally{break}return 9}print(f())", "9/ended");
        output("function f(){try{throw 1}catch(e){return e+1}finally{print(3)}}print(f())", "3/2/ended");
        output("try{try{throw 1}finally{print(2)}}catch(e){print(e)}", "2/1/ended");
        output("throw 'q'", "uncaught 'q'");
        output("function f(){throw 5}function g(){try{f()}finally{print(1)}}g()", "1/uncaught 5");
        output("switch(2){case 1:print(1);case 2:print(2);default:print(3);break;case 4:print(4)}", "2/3/ended");
        output("switch('2'){case 2:print(1);default:print(3)}", "3/ended");
        output("i=0;do{if(i==1)continue;print(i)}while(++i<3)for(;i;i--){if(i==2)continue;print(i)}", "0/2/3/1/ended");
        output("print.x=1;print(print.x);5()", "1/uncaught #23");
    }

    private static void natives() {
        prints("", "undefined");
        prints("typeof Object()+Array().length+String()+String(5)+String(null)", "object05null");
        prints("isNaN()+'|'+isNaN('x')+'|'+isNaN('5')+'|'+isNaN({})", "true|true|false|true");
        prints("Error('m').message+new TypeError(5).message+RangeError().message+new ReferenceError().name", "m5undefinedReferenceError");
        prints("Error().hasOwnProperty('message')+'|'+Error(undefined).message", "false|undefined");
        output("a=[];print(a.push(5,6));print(a.push());print(a[0]+'|'+a[1]);print(a.pop()+'|'+a.pop()+'|'+a.pop());print(a.length)",
            "1/2/5|undefined/undefined|5|undefined/0/ended");
        output("a=[];a[99]=0;print(a.push('x')+a[100]);print(a.push('y')+a[100]);print(a.pop()+a.length)", "100x/100y/99/ended");
        output("a=[];a[3]=1;delete a[3];print(a.pop()+'|'+a.length)", "undefined|3/ended");
        output("try{[].push.call({},1)}catch(e){print(e.name)}try{[].pop.call()}catch(e){print(e.name)}", "TypeError/TypeError/ended");
        prints("print.call.call(String,0,7)+isNaN.call.call.call(String,0,8)", "78");
        prints("'x'.hasOwnProperty+'|'+'x'.push", "[object]|undefined");
        output("h={}.hasOwnProperty;print(h.call([],'length')+'|'+h.call(print,'length'));try{h.call('s','length')}catch(e){print(e.name)}",
            "true|false/TypeError/ended");
        prints("'abc'.charAt()+'abc'.charAt(2)+'|'+'abc'.charAt(3)+'|'+'abc'.charAt(-1)+'abc'.charAt('x')", "ac||a");
        output("try{'a'.charAt.call(5)}catch(e){print(e.name)}try{print.call.call()}catch(e){print(e.name)}", "TypeError/TypeError/ended");
        output("for(i=0;i<103;i++)print(i)", lines(100) + "ended");
    }

    private static String lines(int n) {
        StringBuilder s = new StringBuilder();
        for (int i = 0; i < n; i++) {
            s.append(i).append('/');
        }
        return s.toString();
    }

    private static void lists() {
        output("for(k in {a:1,b:2})print(k)", "a/b/ended");
        output("a=[5,6];a.p=1;for(k in a)print(k)", "0/1/p/ended");
        output("for(k in 'abc')print(k);for(k in null)print(k);for(k in 5)print(k)", "ended");
        output("o={a:1,b:2,c:3};for(k in o){print(k);delete o.b;o.d=1}", "a/c/ended");
        output("o={a:1,b:2,c:3};for(k in o){print(k);delete o.b;o.b=1}print(o.b)", "a/c/1/ended");
        output("o={length:1};for(k in o)print(k);function F(){}for(k in F)print(k);for(k in new F)print(k)", "length/prototype/ended");
        ScriptTypes x = Kit.script("o={a:1,b:2,c:3};for(k in o){delete o.c;o.e=1}");
        x.begin();
        Kit.check("a list's steps", x.run(20) + " " + Kit.instruction(x, x.frame(0, 1)), "20 NEXT33");
        Kit.check("a list", x.value(0, 0, 0) + " " + x.value(0, 0, 1), "8 3");
        x.run(1);
        Kit.check("one less is left", x.value(0, 0, 1) + " " + Kit.value(x, x.value(0, 1, 0), x.value(0, 1, 1)), "2 'a'");
        x.run(6);
        Kit.check("c is gone", x.value(0, 0, 0) + " " + x.value(0, 0, 1), "8 1");
    }

    // Promises 10 to 15
    private static void looking() {
        ScriptTypes x = Kit.script("function f(a){try{throw 3}catch(e){a=[];return this.x}}o={x:7,g:f};print(o.g('s'))");
        x.begin();
        for (int i = 0; i < 100 && x.count(11) < 2; i++) {
            x.run(1);
        }
        Kit.check("the latest frame", x.frame(0, 0) + " " + x.frame(0, 1) + " " + x.frame(0, 2) + " " + x.frame(0, 3) + " " + x.frame(0, 4), "1 28 0 26 0");
        Kit.check("the first frame", x.frame(1, 0) + " " + Kit.instruction(x, x.frame(1, 1)) + " " + x.frame(1, 2) + " " + x.frame(1, 3), "0 CALL1 2 -1");
        Kit.check("this", Kit.value(x, x.value(0, -1, 0), x.value(0, -1, 1)) + " " + Kit.value(x, x.value(1, -1, 0), x.value(1, -1, 1)), "#25 undefined");
        Kit.check("values of the first frame", Kit.value(x, x.value(1, 0, 0), x.value(1, 0, 1)) + " " + Kit.value(x, x.value(1, 1, 0), x.value(1, 1, 1)),
            "undefined #9");
        Kit.check("no value", x.value(1, 2, 0) + " " + x.value(0, 0, 0) + " " + x.value(0, -2, 0) + " " + x.value(2, -1, 0) + " " + x.value(0, -1, 2) + " "
            + x.value(0, -1, -1), "-1 -1 -1 -1 -1 -1");
        Kit.check("no frame", x.frame(2, 0) + " " + x.frame(-1, 0) + " " + x.frame(0, 5) + " " + x.frame(0, -1), "-1 -1 -1 -1");
        Kit.check("the scope", x.object(26, 0) + " " + x.object(26, 1) + " " + x.object(26, 2) + " " + x.object(26, 3) + " " + x.object(26, 4), "29 -1 -1 2 3");
        Kit.check("the scope's variables", property(x, 26, 0) + " " + property(x, 26, 1), "a='s' e=undefined");
        Kit.check("the function", x.object(23, 0) + " " + x.object(23, 1) + " " + x.object(23, 2) + " " + x.object(23, 3) + " " + x.object(23, 4), "31 2 -1 1 1");
        Kit.check("its prototype object", x.object(24, 0) + " " + x.object(24, 1) + " " + property(x, 24, 0) + " " + property(x, 23, 0),
            "33 1 constructor=#23 prototype=#24");
        Kit.check("no object", x.object(27, 0) + " " + x.object(-1, 0) + " " + x.object(0, 5) + " " + x.object(0, -1), "-1 -1 -1 -1");
        Kit.check("no property", x.property(26, 2, 0) + " " + x.property(26, -1, 0) + " " + x.property(26, 0, 3) + " " + x.property(99, 0, 0), "-1 -1 -1 -1");
        x.run(1);
        Kit.check("a try is open", x.frame(0, 4), 1);
        x.run(2);
        Kit.check("it is open no more", x.frame(0, 4) + " " + x.frame(0, 2), "0 1");
        x.run(2000);
        Kit.check("what was printed", x.printed(0, 0) + " " + x.printed(0, 1) + " " + x.printed(0, -1) + " " + x.printed(1, -1) + " " + x.printed(-1, -1)
            + " " + x.printed(0, -2), "55 -1 " + (x.count(9) - 1) + " -1 -1 -1");
        Kit.check("nothing is uncaught", x.uncaught(0) + " " + x.uncaught(1), "-1 -1");
        ScriptTypes y = Kit.run("throw null");
        Kit.check("uncaught", y.uncaught(0) + " " + y.uncaught(1) + " " + y.uncaught(2) + " " + y.uncaught(-1) + " " + y.count(11), "1 0 -1 -1 0");
        labels();
        first();
    }

    private static String property(ScriptTypes x, int o, int k) {
        return Kit.string(x, x.property(o, k, 0)) + "=" + Kit.value(x, x.property(o, k, 1), x.property(o, k, 2));
    }

    private static void labels() {
        ScriptTypes x = Kit.run("for(i=0;i<3;i++){[];o={};function_=new f(function(){})}function f(){}Object();Array();Error();TypeError();try{q}catch(e){}");
        StringBuilder s = new StringBuilder();
        for (int o = 23; o < x.count(8); o++) {
            s.append(x.object(o, 0)).append(' ');
        }
        // f and its prototype object; then thrice array, object, function, its prototype object, what NEW made, its scope
        Kit.check("labels", s.toString().trim(), "37 39 42 44 32 34 46 36 42 44 32 34 46 36 41 43 31 33 45 35 23 24 25 26 27");
    }

    private static void first() {
        ScriptTypes x = Kit.script("");
        x.begin();
        StringBuilder s = new StringBuilder();
        for (int o = 0; o < 23; o++) {
            s.append(x.object(o, 0) == o ? "" : "label ").append(x.object(o, 1)).append(x.object(o, 4) == 1 ? "f" : "");
            for (int k = 0; k < x.object(o, 3); k++) {
                s.append(' ').append(property(x, o, k));
            }
            s.append(';');
        }
        Kit.check("the first objects", s, "1 print=#9 Object=#10 Array=#11 String=#12 isNaN=#13 Error=#14 TypeError=#15 ReferenceError=#16 RangeError=#17;"
            + "-1 constructor=#10 hasOwnProperty=#21;1 call=#20;1 constructor=#11 push=#18 pop=#19;1 constructor=#12 charAt=#22;"
            + "1 constructor=#14 name='Error';5 constructor=#15 name='TypeError';5 constructor=#16 name='ReferenceError';"
            + "5 constructor=#17 name='RangeError';2f;2f prototype=#1;2f prototype=#3;2f prototype=#4;2f;2f prototype=#5;2f prototype=#6;"
            + "2f prototype=#7;2f prototype=#8;2f;2f;2f;2f;2f;");
    }

    private static void noRoom() {
        ScriptTypes x = Kit.run("for(;;)[]");
        Kit.check("300 objects", Kit.output(x) + " " + x.count(8) + " " + Kit.instruction(x, x.frame(0, 1)) + " " + x.frame(0, 2), "no room 300 ARRAY0 0");
        Kit.check("steps with the one that stops it", x.count(7), 277 * 3 + 1);
        ScriptTypes y = Kit.run("n=0;for(;;)''+n++");
        Kit.check("400 strings", Kit.output(y) + " " + y.count(9) + " " + Kit.instruction(y, y.frame(0, 1)) + " " + y.frame(0, 2), "no room 400 BINARY0 2");
        ScriptTypes z = Kit.run("o={};for(i=0;;i++){o={};for(j=0;j<12;j++)o[j]=i}");
        int properties = 0;
        for (int o = 0; o < z.count(8); o++) {
            properties += z.object(o, 3);
        }
        Kit.check("3,000 properties", Kit.output(z) + " " + properties + " " + Kit.instruction(z, z.frame(0, 1)) + " " + z.frame(0, 2), "no room 3000 PUT 3");
        ScriptTypes f = Kit.run("for(i=0;i<276;i++)[];for(;;)x=function(){}");
        Kit.check("the first of two objects", Kit.output(f) + " " + f.count(8) + " " + f.object(299, 0) + " " + f.object(299, 3) + " " + f.frame(0, 2),
            "no room 300 31 0 0");
        ScriptTypes g = Kit.run("function f(a){}for(i=0;i<274;i++)[];new f(5)");
        Kit.check("what NEW made stays", Kit.output(g) + " " + g.count(8) + " " + g.object(299, 0) + " " + g.frame(0, 2) + " "
            + Kit.instruction(g, g.frame(0, 1)), "no room 300 37 2 NEW1:1");
        g.begin();
        Kit.check("it begins anew", g.count(6) + " " + g.count(8) + " " + g.count(9), "1 23 " + g.count(2));
        output("o={};for(i=0;i<3500;i++){o.p=1;delete o.p}print(i)", "3500/ended");
    }
}
