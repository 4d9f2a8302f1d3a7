/** Section 1 of the terms, from SCRIPT on: where each form begins and ends, what may be left out, what binds what. */
public final class GrammarBoundsTest {
    private static final String[] KEYWORDS = ("break case catch continue default delete do else false finally for function if in instanceof NaN new null "
        + "return switch this throw true try typeof undefined var void while").split(" ");
    // From what binds least, a level each.
    private static final String[][] LEVELS = {{"||"}, {"&&"}, {"|"}, {"^"}, {"&"}, {"==", "!=", "===", "!=="}, {"<", ">", "<=", ">=", "in", "instanceof"},
        {"<<", ">>", ">>>"}, {"+", "-"}, {"*", "/", "%"}};

    private GrammarBoundsTest() {
    }

    public static void main(String[] args) {
        functions();
        outermost();
        varsAndBlocks();
        conditions();
        loops();
        forLoops();
        inOfFor();
        jumps();
        tries();
        switches();
        semicolons();
        goingOn();
        levels();
        choices();
        units();
        lefts();
        primaries();
        counts();
        keys();
        lastCommas();
        Kit.end("GrammarBoundsTest");
    }

    private static void fault(String text, String want) {
        Kit.check("fault of " + text, Kit.fault(text), want);
    }

    private static void all(String want, String... texts) {
        for (String text : texts) {
            fault(text, want);
        }
    }

    private static void same(String text, String other) {
        Kit.check("code of " + text + " is that of " + other, Kit.code(text), Kit.code(other));
    }

    private static String times(String s, int n) {
        return s.repeat(n);
    }

    private static void functions() {
        Kit.sentence("function NAME ( names, unlike each other, with commas; 8 at most ) { PARTS }");
        all("0", "", "function f(){}", "function f(a){}", "function f(a,b,c,d,e,g,h,i){}", "function f(){}function g(){}", "function f(){}a", "a;function f(){}",
            "a\nfunction f(){}", "function f(){function g(){function h(){}}}", "function\nf\n(\na\n,\nb\n)\n{\n}", "function f(){};", "function f(f){}",
            "function f(){}function f(){}", "function f(a,A){}", "function f(){a;var b;function g(){}return 1}");
        all("2:1", "function", "function f", "function f(", "function f()", "function f(){", "function (){}", "function f{}", "function f(){}}", "function f(a b){}",
            "function f(,){}", "function f(a,){}", "function f(,a){}", "function f(1){}", "function f('a'){}", "function f(a=1){}", "function f((a)){}", "function f()a",
            "function f() g(){}", "function f(){}()", "function f.a(){}", "function f(a,b,c,d,e,g,h,i,j){}", "a function f(){}", "function 5(){}", "function f(a;b){}",
            "x=function(a,b,c,d,e,g,h,i,j){}", "x=function f(,){}", "x=function f", "x=function(", "x=function()", "x=function(){", "x=function 5(){}", "x=function(){}a");
        all("3:1", "function f(a,a){}", "function f(a,b,a){}", "x=function(a,a){}", "function f(a,b,c,d,e,g,h,a){}");
        all("0", "x=function(a,b,c,d,e,g,h,i){}", "x=function f(a){}", "x=function(){}", "x=function f(f){}", "x=function(a){function g(a){}}");
        fault("function f(a,b,c,d,e,g,h,i\n,j){}", "2:2");
        fault("function f(a,b,c,d,e,g,h\n,a){}", "3:2");
    }

    private static void outermost() {
        Kit.sentence("declarations stand nowhere but on the outermost level of the script or a function");
        all("2:1", "{function f(){}}", "if(a)function f(){}", "if(a);else function f(){}", "while(a)function f(){}", "do function f(){} while(a)",
            "for(;;)function f(){}", "for(a in b)function f(){}", "try{function f(){}}catch(e){}", "try{}catch(e){function f(){}}", "try{}finally{function f(){}}",
            "switch(a){case 1:function f(){}}", "switch(a){default:function f(){}}", "function f(){{function g(){}}}", "function f(){if(a)function g(){}}",
            "x=function(){while(a){function g(){}}}", "{;function f(){}}", "{{function f(){}}}");
        all("0", "function f(){}", "{}function f(){}", "function f(){{}function g(){}}", "x=function(){function g(){}}", "{x=function(){function g(){}}}",
            "if(a)x=function(){function g(){}}", "try{}catch(e){}function f(){}", "switch(a){}function f(){}", "if(a);function f(){}", "do;while(a)function f(){}",
            "{x=function f(){}}", "if(a)(function f(){})");
        fault("{\nfunction f(){}}", "2:2");
        Kit.sentence("E; (not beginning with function or {)");
        all("2:1", "function(){}", "function(){}()", "{a:1}", "{a:1}.b", "{}.a", "{'a':1}", "{},a", "function(){},1", "if(a)function(){}", "{}=1");
        all("0", "(function(){})", "!function(){}", "a=function(){}", "({})", "({a:1})", "[{}]", "({}).a", "{a}", "{}a", "{}[1]", "{}(a)", "{}+a", "a,{}", "a,function(){}",
            "throw{}", "throw function(){}", "for({};function(){};{});", "for(function(){};;);", "if({})a", "while(function(){});", "switch({}){case{}:}");
    }

    private static void varsAndBlocks() {
        Kit.sentence("{ STATEMENTS }   var NAME [= A], ..;   ;   E;");
        all("0", "{}", "{;}", "{a}", "{a;b;}", "{{}{}}", "{}{}", "var a", "var a;", "var a,b", "var a=1", "var a=1,b=2,c", "var a=b=c", "var a=b?c:d,e", "var a,a", "var a\nvar b",
            "var a=(1,2)", "var a={},b=[]", ";", ";;;", "a,b,c", "a=1,b=2");
        all("2:1", "{", "}", "{}}", "{a", "{a b}", "var", "var ,a", "var a,", "var a,;", "var a=", "var a=;", "var a=1,2", "var a b", "var a.b", "var a[1]", "var (a)", "var 5",
            "var a+=1", "var a++", "var a=1 b", "var var a", "{var}", "a,", ",a", "a,,b", "var a,,b", "var 'a'", "a;b c");
        fault("var a=1=2", "3:1");
        same("var a=1,b=2", "var a,b;a=1;b=2");
    }

    private static void conditions() {
        Kit.sentence("if (E) S [else S]");
        all("0", "if(a)b", "if(a);", "if(a){}", "if(a,b)c", "if(a);else;", "if(a){}else{}", "if(a)b;else c", "if(a)b\nelse c", "if(a)if(b);else;else;", "if(a);else if(b);else;",
            "if(a)var b", "if(a)throw b", "if\n(\na\n)\n;\nelse\n;", "if(a=1)b", "if(a){}\n\n;");
        all("2:1", "if", "if(", "if()a", "if(a", "if(a)", "if a", "if a;", "(if(a)b)", "if(a)else b", "if(a);else", "if(a)b else c", "else", "else a", "if(a);else;else;",
            "if(a){};else;", "if(a);;else;", "if(a)}", "{if(a)}", "{if(a);else}", "if(a;b)c", "if[a]b", "if(a);else)", "if(var a)b", "if(a)b,", "if(a)b;else c else d");
        same("if(a)if(b)c;else d", "if(a){if(b)c;else d}");
        same("if(a)b;else if(c)d;else e", "if(a)b;else{if(c)d;else e}");
    }

    private static void loops() {
        Kit.sentence("while (E) S   do S while (E);");
        all("0", "while(a)b", "while(a);", "while(a){}", "while(a,b)c", "while(a)while(b)c", "do;while(a)", "do;while(a);", "do{}while(a)", "do a;while(b)", "do a\nwhile(b)",
            "do;while(a)b", "do;while(a){}", "do;while(a)do;while(b)", "do do;while(a)while(b)", "do;while(a,b)", "do while(a);while(b)", "do if(a);else;while(b)", "while(a)do;while(b)c",
            "do var a;while(b)", "do{}while(a)+b");
        all("2:1", "while", "while(", "while()a", "while(a", "while(a)", "while a", "while(a)}", "{while(a)}", "while(a;b)c", "do", "do;", "do while(a)", "do a while(b)", "do{}",
            "do;while", "do;while(", "do;while()", "do;while(a", "do;while a", "do;until(a)", "do;while(a))", "do a,b while(c)", "do}", "while(var a)b", "do{}b", "do;;while(a)");
    }

    private static void forLoops() {
        Kit.sentence("for ([var NAME [= A], .. | E]; [E]; [E]) S");
        for (int part = 0; part < 8; part++) {
            String text = "for(" + ((part & 1) != 0 ? "a" : "") + ";" + ((part & 2) != 0 ? "b" : "") + ";" + ((part & 4) != 0 ? "c" : "") + ")";
            fault(text + ";", "0");
            fault(text + "d", "0");
            fault(text, "2:1");
            fault(text + "}", "2:1");
            fault(text.replace("for(", "for(var "), "2:1");
            fault(text.replace("for(", "for(var ") + ";", (part & 1) != 0 ? "0" : "2:1");
        }
        all("0", "for(a,b;c,d;e,f)g", "for(var a=1,b=2;;);", "for(var a,b;;);", "for(var a=1;;);", "for(a=1;a<2;a++);", "for(;;)for(;;);", "for\n(\n;\n;\n)\n;", "for({};;);",
            "for(;;){}", "for(;;)var a");
        all("2:1", "for", "for(", "for()", "for();", "for(;", "for(;)", "for(;);", "for(a);", "for(a;b);", "for(a;b;c", "for(a;b;c;d);", "for(;;;);", "for(var);", "for(var;;);",
            "for(var a);", "for(var a,;;);", "for(var a=;;);", "for(var a b;;);", "for a;b;c", "for(a b;;);", "for(;a b;);", "for(;;a b);", "for(,;;);", "for(;var a;);", "for(if;;);",
            "for(var a;var b;);", "for(var a=1 2;;);", "for(;;)else");
        Kit.sentence("for ([var] NAME in E) S");
        all("0", "for(a in b);", "for(var a in b);", "for(a in b,c);", "for(var a in b,c);", "for(a in b in c);", "for(a in b=c);", "for(a in {});", "for(a in function(){});",
            "for\n(\na\nin\nb\n)\n;", "for(a in b)for(c in d);", "for(in1 in b);", "for(var a in b in c);");
        all("2:1", "for(a in b)", "for(a in);", "for(in b);", "for(var in b);", "for(a in b", "for(a in b;;);", "for(a in b;);", "for(var a in b;;);", "for(a.b in c);", "for(a[1] in b);",
            "for((a) in b);", "for(5 in b);", "for('a' in b);", "for(this in b);", "for(a,b in c);", "for(var a,b in c);", "for(var a=1 in b);", "for(a=1 in b);", "for(a+b in c);",
            "for(a() in b);", "for(a++ in b);", "for(if in b);", "for(var if in b);", "for(new a in b);", "for(a in b)}", "for({} in b);", "for(-a in b);", "for(a in var b);",
            "for(var (a) in b);", "for(a in);", "for(null in b);");
    }

    private static void inOfFor() {
        Kit.sentence("(From for's ( up to its first ; or in, an \"in\" outside of brackets ( [ { is no sign.)");
        all("0", "for((a in b);;);", "for([a in b];;);", "for([c,a in b];;);", "for(x={a:b in c};;);", "for(f(a in b);;);", "for(f(c,a in b);;);", "for(a[b in c];;);",
            "for(x=function(){a in b};;);", "for(function(){a in b};;);", "for(var a=(b in c);;);", "for(var a=[b in c],d=f(e in g);;);", "for(;a in b;);", "for(;;a in b);",
            "for(a;b in c;d in e);", "for(a in b in c);", "for(a in b)c in d", "for(new f(a in b);;);", "for(a=((b)in(c));;);", "for(x=function(){for(a in b);};;);",
            "for(x=function(){for(a;b in c;)d in e};;);", "for(a?(b in c):d;;);", "for(var a=function(){return b in c};;);", "for(((a)) ;;)b in c", "for(f()[a in b];;);");
        all("2:1", "for(a=b in c;;);", "for(a+b in c;;);", "for(a,b in c;;);", "for(var a=b in c;;);", "for(a?b in c:d;;);", "for(a?b:c in d;;);", "for((a)in b;;);", "for(!a in b;;);",
            "for([a]in b;;);", "for(f(a)in b;;);", "for(a[1]in b;;);", "for(x={}in b;;);", "for(x=function(){}in b;;);", "for(var a,b=c in d;;);", "for(a||b in c;;);",
            "for(a==b in c;;);", "for(a&&(b)in c;;);", "for(typeof a in b;;);", "for((a in b)in c;;);", "for([a in b]in c;;);", "for(x=function(){a in b}in c;;);");
        fault("for(a=b\nin c;;);", "2:2");
        Kit.check("an in behind for's header is a sign", Kit.code("for(;;)a in b"), "GLOBAL:a GLOBAL:b BINARY19 DROP JUMP0 undefined RETURN");
        fault("for(a instanceof b;;);", "0");
    }

    private static void jumps() {
        Kit.sentence("continue;   break;   return [E];   throw E;");
        all("0", "while(a)break", "while(a)continue", "while(a)break;", "while(a){continue\nb}", "while(a){break\nb}", "function f(){return}", "function f(){return;}",
            "function f(){return a}", "function f(){return a,b}", "function f(){return(a)}", "function f(){return{}}", "function f(){return function(){}}", "function f(){return-a}",
            "throw a", "throw a,b", "throw{}", "throw(a)", "throw a;", "throw a\nb", "function f(){return\n}", "function f(){return\n;}", "function f(){return/**/a}",
            "while(a)if(b)break;else continue");
        all("2:1", "while(a)break b", "while(a)continue b", "while(a){break b}", "while(a)break 1", "function f(){return a b}", "function f(){return )}", "function f(){return",
            "function f(){return,}", "throw", "throw;", "throw}", "{throw}", "throw a b", "throw)", "throw var a", "function f(){return var a}", "(throw a)", "a=break",
            "function f(){x=return}", "function f(){return else}", "function f(){return in a}");
        Kit.sentence("The E of return is there if the next token stands on return's line and is neither ; nor }");
        Kit.check("return and a on its line", Kit.code("function f(){return a}"), "FUNCTION1 SETGLOBAL:f DROP undefined RETURN GLOBAL:a RETURN undefined RETURN");
        String without = "FUNCTION1 SETGLOBAL:f DROP undefined RETURN undefined RETURN GLOBAL:a DROP undefined RETURN";
        for (String gap : new String[] {"\n", ";", " ;\n", "/*\n*/", "//\n", "\n;"}) {
            Kit.check("return" + gap + "a", Kit.code("function f(){return" + gap + "a}"), without);
        }
        fault("function f(){return\n)}", "2:2");
        fault("function f(){return\n\n", "2:3");
        fault("function f(){return )}", "2:1");
        Kit.sentence("that of throw must begin on its line");
        fault("throw\na", "2:2");
        fault("throw/*\n*/a", "2:2");
        fault("throw//\na", "2:2");
        fault("throw/**/a", "0");
        fault("throw a\n+b", "0");
        fault("throw\n\n", "2:3");
    }

    private static void tries() {
        Kit.sentence("try { S .. } [catch (NAME) { S .. }] [finally { S .. }] with one of both at least");
        all("0", "try{}catch(e){}", "try{}finally{}", "try{}catch(e){}finally{}", "try{a}catch(e){b}finally{c}", "try{a;b}catch(e){c;d}", "try{}catch(e){}try{}finally{}",
            "try{try{}finally{}}catch(e){try{}catch(e){}}finally{try{}finally{}}", "try\n{\n}\ncatch\n(\ne\n)\n{\n}\nfinally\n{\n}", "try{}finally{}a", "if(a)try{}finally{}\nelse;");
        all("2:1", "try", "try{", "try{}", "try{}a", "try{};catch(e){}", "try a;catch(e){}", "try{}catch{}", "try{}catch(){}", "try{}catch(e)a", "try{}catch(e)", "try{}catch(e){",
            "try{}catch(e.a){}", "try{}catch(5){}", "try{}catch(a,b){}", "try{}catch e{}", "try{}catch(if){}", "try{}finally a", "try{}finally", "try{}finally{", "try{}finally(e){}",
            "try{}finally{}catch(e){}", "try{}catch(e){}catch(e){}", "try{}finally{}finally{}", "catch(e){}", "finally{}", "try{}catch(e){};finally{}", "{try{}}", "try{}}",
            "try{}catch((e)){}", "try{}catch('e'){}", "try{}catch", "try{}catch(", "try{}catch(e");
        fault("try{}\n\n", "2:3");
        fault("try{}\na", "2:2");
    }

    private static void switches() {
        Kit.sentence("switch (E) { case E: S .. default: S .. } (cases in any number, default once at most, anywhere)");
        all("0", "switch(a){}", "switch(a){case 1:}", "switch(a){default:}", "switch(a){case 1:b;c}", "switch(a){case 1:case 2:}", "switch(a){default:case 1:}",
            "switch(a){case 1:default:}", "switch(a){case 1:default:case 2:}", "switch(a,b){case c,d:}", "switch(a){case b?c:d:}", "switch(a){" + times("case 1:", 50) + "}",
            "switch(a){case 1:switch(b){default:}default:}", "switch(a){default:switch(b){default:}}", "switch(a){case{}:}", "switch(a){case 1:{}default:;}", "switch\n(\na\n)\n{\ncase\n1\n:\n}",
            "switch(a){case b:\ncase c:}", "switch(a){case 1:b\ncase 2:c}", "switch(a){case 1:b}c", "switch(a){case'b':}", "switch(a){}switch(b){}");
        all("2:1", "switch", "switch(", "switch()", "switch(a)", "switch(){}", "switch(a){", "switch a{}", "switch(a)b", "switch(a){b}", "switch(a){;}", "switch(a){case:}", "switch(a){case 1}",
            "switch(a){case 1;}", "switch(a){default}", "switch(a){default 1:}", "switch(a){default;}", "switch(a){case 1:b case 2:c}", "switch(a){case 1:", "case 1:", "default:", "case",
            "default", "{case 1:}", "switch(a){case 1:{case 2:}}", "switch(a){case 1:if(b)case 2:}", "switch(a){else:}", "switch(a){case 1:}}", "switch(a){case 1:)}", "switch(a){case 1,:}",
            "switch(a;b){}", "while(a){case 1:}", "switch(a){case 1::}", "switch(a){case a?b:}");
        all("3:1", "switch(a){default:default:}", "switch(a){default:case 1:default:}", "switch(a){default:b;default:}", "switch(a){case 1:default:case 2:case 3:default:c}",
            "switch(a){default:switch(b){default:}default:}", "switch(a){default:default", "switch(a){default:default}");
        fault("switch(a){default:\n\ndefault:}", "3:3");
    }

    private static void semicolons() {
        Kit.sentence("A ; may be left out ahead of }");
        all("0", "{a}", "{var a}", "{a=1}", "{throw a}", "while(a){break}", "while(a){continue}", "function f(){return}", "function f(){return a}", "function f(){a}", "{do;while(a)}",
            "{a;b}", "switch(a){case 1:b}", "try{a}catch(e){b}finally{c}", "{a++}", "{if(a)b}", "x=function(){a}");
        Kit.sentence("A ; may be left out at the end");
        all("0", "a", "var a", "a=1", "throw a", "while(a)break", "while(a)continue", "do;while(a)", "a ", "a//", "a/**/", "if(a)b", "if(a);else b", "a++");
        Kit.sentence("A ; may be left out where the next token stands on a later line than the one before it");
        all("0", "a\nb", "var a\nb", "var a=1\nvar b", "throw a\nb", "while(a){break\nb}", "a\nif(b);", "a\nfunction f(){}", "a\n{}", "a//\nb", "a/*\n*/b", "a\n\n\nb", "a\n'b'", "a\n5",
            "a\nthis", "a\n!b", "a\n~b", "a\nnew b", "a\ndelete b.c", "a\ntypeof b", "if(a)b\nelse c", "do a\nwhile(b)", "(\na\n)\nb", "a.b\nc", "5\n5", "a++\nb", "a\n++\nb", "a\n--b");
        all("2:1", "a b", "a 5", "a 'b'", "a{}", "a if(b);", "a function f(){}", "var a b", "var a var b", "throw a b", "a/**/b", "a\tb", "a!b", "a~b", "a new b", "a delete b.c", "5 5",
            "a this", "a typeof b", "a++b", "(a)b", "if(a)b else c", "do a while(b)", "a.b c", "x={}{}", "x={}b", "x=function(){}b", "while(a){break b}");
        all("2:2", "a\n)", "a\n]", "a\n:b", "a\n=", "a\ncatch(e){}", "a\ncase 1:", "a\nelse b", "a\nin", "a\n,", "(a\nb)", "[a\nb]", "f(a\nb)", "x={a:b\nc:d}", "a\n*", "a\nfinally{}");
        fault("(a\n)b", "2:2");
        fault("'a'\n'b' c", "2:2");
        Kit.sentence("A ; may be left out behind the ) of do");
        all("0", "do;while(a)b", "do;while(a)5", "do;while(a){}", "do;while(a)if(b);", "do;while(a)(b)", "do;while(a)++b", "do;while(a)var b", "do;while(a)function f(){}", "{do;while(a)b}",
            "do;while(a);b", "do;while(a)[1]", "do;while(a)-b");
        all("2:1", "do;while(a)*b", "do;while(a).b", "do;while(a)=b", "do;while(a),b", "do;while(a)?b:c", "while(a)while(b)");
        fault("if(a)do;while(b)else;", "0");
        fault("if(a)do;while(b)\nelse;", "0");
        fault("if(a)do;while(b);else;", "0");
        Kit.sentence("(but not one that is a STATEMENT, nor for's)");
        all("2:1", "if(a)", "{if(a)}", "while(a)", "{while(a)}", "for(;;)", "{for(;;)}", "for(a in b)", "{for(a in b)}", "if(a);else", "{if(a);else}", "do while(a)", "{do}");
        all("2:2", "if(a)\n", "while(a)\n", "for(;;)\n", "if(a)\n}", "{while(a)\n}", "if(a);else\n", "for(a\nb;c);", "for(a;b\nc);", "for(\n);", "for(;\n);", "for(a;b\n);", "for(var a\nb;;);",
            "if(a)\nelse b", "do\n}", "for(a\n", "for(a;b\n");
        fault("for(a\n;b\n;c\n)\n;", "0");
        fault("while(a)\nb", "0");
        fault("do\nwhile(a)\n", "2:3");
        fault("do\n;while(a)\n", "0");
    }

    private static void goingOn() {
        Kit.sentence("(What can go on, goes on, over lines, too: but ++ and -- as told.)");
        for (String[] level : LEVELS) {
            for (String sign : level) {
                same("a\n" + sign + "\nb", "a " + sign + " b");
            }
        }
        for (String sign : "= += -= *= /= %= <<= >>= >>>= &= |= ^=".split(" ")) {
            same("a\n" + sign + "\nb", "a" + sign + "b");
            same("a.b\n" + sign + "\nc", "a.b" + sign + "c");
        }
        same("a\n(b)", "a(b)");
        same("a\n[b]", "a[b]");
        same("a\n.b", "a.b");
        same("a\n?b\n:c", "a?b:c");
        same("a\n,b", "a,b");
        same("new a\n(b)", "new a(b)");
        same("new a\n.b\n[c]", "new a.b[c]");
        same("var a\n=1\n,b", "var a=1,b");
        same("if(a)b\n;else c", "if(a)b;else c");
        same("-\na", "-a");
        same("++\na", "++a");
        same("delete\na\n.\nb", "delete a.b");
        same("typeof\na", "typeof a");
        same("a\n;b", "a;b");
        same("a=b\n(c)", "a=b(c)");
        same("a=b\n/c\n/d", "a=b/c/d");
        same("do;while(a)\n(b)", "do;while(a);(b)");
        same("a\n++\nb", "a;++b");
        same("a\n--\nb", "a;--b");
        same("a\n++b", "a;++b");
        same("a++\nb", "a++;b");
        same("a[1]\n++b", "a[1];++b");
        same("a=b\n++c", "a=b;++c");
        all("2:2", "a\n++", "a\n--", "(a\n++)", "a.b\n--", "f(a\n++)", "[a\n--]", "a\n++;");
        all("0", "a[\n1\n]++", "a.\nb--", "a\n.b++", "a/**/++", "(a)[\n0]--");
        fault("a[\n1\n]\n++", "2:4");
    }

    private static void levels() {
        Kit.sentence("O: units with signs between, from what binds least; of the same from the left");
        for (int i = 0; i < LEVELS.length; i++) {
            for (int j = 0; j < LEVELS.length; j++) {
                for (String one : LEVELS[i]) {
                    for (String two : LEVELS[j]) {
                        grouping(one, two, i >= j);
                    }
                }
            }
        }
        same("a+b+c+d", "((a+b)+c)+d");
        same("a||b&&c|d^e&f==g<h<<i+j*k", "a||(b&&(c|(d^(e&(f==(g<(h<<(i+(j*k)))))))))");
        same("a*b+c<<d<e==f&g^h|i&&j||k", "(((((((((a*b)+c)<<d)<e)==f)&g)^h)|i)&&j)||k");
        all("2:1", "a+", "+", "a*", "*a", "a==", "==a", "a&&", "&&a", "a||", "a in", "in a", "a instanceof", "instanceof a", "a<", "<a", "a%", "%a", "a^", "^a", "|a", "&a", "/a", "a+*b",
            "a in in b", "a&&||b", "a instanceof in b");
        all("0", "a+-b", "a- -b", "a*-b", "a in-b", "a&&!b", "a instanceof typeof b", "a+ +b", "a<-b", "a==~b", "a||void b", "a+delete b.c", "a+ ++b", "a+new b");
    }

    private static void grouping(String one, String two, boolean left) {
        String text = "a " + one + " b " + two + " c";
        String first = Kit.code("(a " + one + " b) " + two + " c");
        String second = Kit.code("a " + one + " (b " + two + " c)");
        Kit.check("the two groupings of " + text + " are unlike", first.equals(second), false);
        Kit.check("grouping of " + text, Kit.code(text), left ? first : second);
    }

    private static void choices() {
        Kit.sentence("E: A, .. with commas. A: C, or C, one of = += and so on, and an A. C: O, or O ? A : A.");
        same("a?b:c?d:e", "a?b:(c?d:e)");
        same("a?b?c:d:e", "a?(b?c:d):e");
        same("a||b?c:d", "(a||b)?c:d");
        same("a?b:c||d", "a?b:(c||d)");
        same("a?b:c=d", "a?b:(c=d)");
        same("a?b=c:d", "a?(b=c):d");
        same("a?b=c:d=e", "a?(b=c):(d=e)");
        same("a=b?c:d", "a=(b?c:d)");
        same("a=b=c", "a=(b=c)");
        same("a+=b-=c", "a+=(b-=c)");
        same("a=b,c", "(a=b),c");
        same("a,b?c:d", "a,(b?c:d)");
        same("a?b:c,d", "(a?b:c),d");
        same("a.b=c.d=e", "a.b=(c.d=e)");
        all("2:1", "a?b", "a?b:", "a?:b", "a?", "?a:b", "a?b,c:d", "a:b", "a?b:c:d", "a?b?c:d", "a=", "=a", "a,=b", "a?b;:c", "(a?b)", "a?,b:c");
        all("3:1", "a+b=c", "a?b:5=c", "a||b=c", "a=b+c=d", "a=5=b", "!a=b", "a++=b", "(a,b)=c", "a?b:c+d=e", "a<b+=c");
        fault("a=b=c=d", "0");
        fault("a?b\n,c:d", "2:2");
    }

    private static void units() {
        Kit.sentence("UNIT: delete void typeof ++ -- + - ~ ! and a unit");
        for (String sign : new String[] {"void ", "typeof ", "+ ", "- ", "~", "!"}) {
            fault(sign + "a", "0");
            fault(sign + sign + "a", "0");
            fault(sign + "5", "0");
            fault(sign + "a.b()", "0");
            fault(sign, "2:1");
            fault(sign + ";", "2:1");
            fault(sign + "* a", "2:1");
            fault("a" + (sign.equals("+ ") || sign.equals("- ") ? "*)" : " " + sign + "b"), "2:1");
            same(sign + "a+b", "(" + sign + "a)+b");
            same(sign + "a*b", "(" + sign + "a)*b");
            same(sign + "a.b", sign + "(a.b)");
            same(sign + "a++", sign + "(a++)");
            same(sign + "a()", sign + "(a())");
            fault(sign + "function(){}", "0");
            fault(sign + "{}", "0");
        }
        same("-a in b", "(-a)in b");
        same("!a instanceof b", "(!a)instanceof b");
        same("typeof a==b", "(typeof a)==b");
        same("- -a", "-(-a)");
        same("-~!+a", "-(~(!(+a)))");
        same("delete a.b.c", "delete (a.b).c");
        same("++a.b", "++(a).b");
        all("2:1", "delete", "delete;", "++", "--", "++;", "delete *a", "++ *a", "void", "typeof", "typeof)", "- ", "~)", "!]");
        Kit.sentence("or a LEFT, perhaps with ++ or -- behind on the line where it ends");
        all("0", "a++", "a--", "a.b++", "a[b]--", "a()[b]++", "a++,b--", "a+++b", "a++*b", "-a++", "a++?b--:c++", "f(a++)", "a++;b--", "a++\nb", "this.a++", "new a().b++");
        all("2:1", "a++ ++", "a-- --", "a++ --", "a++.b", "a++[1]", "a++(b)", "a++ b", "a++5", "a++!b");
        all("3:1", "5++", "this++", "(a)++", "a()++", "'a'--", "null++", "new a++", "[]++", "(a.b)--", "a+5++", "-5++");
        fault("a++\n[1]", "0");
        fault("a++\n(b)", "0");
        fault("a++\n.b", "2:2");
    }

    private static void lefts() {
        Kit.sentence("LEFT: PRIMARY or NEW, and any of . name, [ E ], ( up to 8 A with commas ) behind.");
        all("0", "a.b", "a[b]", "a[b,c]", "a()", "a(b)", "a(b,c)", "a.b.c[d](e)(f)[g].h", "5 .a", "'a'.b", "true.a", "null.a", "NaN.a", "undefined.a", "this.a", "[].a", "({}).a",
            "(a).b", "a(b=c,d)", "a((b,c))", "a({},function(){})", "x=function(){}()", "x=function(){}.a", "x={}.a", "x={}[1]", "5()", "'a'[0]", "new a()()", "new a().b(c)");
        all("2:1", "a.", "a.5", "a.'b'", "a..b", "a.(b)", "a.[b]", "a[", "a[b", "a[]", "a[b;", "a[b c]", "a]", "a(", "a(b", "a(,b)", "a(b,,c)", "a(b c)", "a)", "a(b;c)", "a[,b]", "a(b]",
            "a[b)", "a.;", "a[var b]", "a(var b)", ".a", "a.-b");
        Kit.sentence("NEW: new, then a PRIMARY or NEW with any of . name and [ E ] behind, then ( A .. ) if one follows.");
        all("0", "new a", "new a()", "new a(b)", "new a.b", "new a.b()", "new a[b].c(d)", "new(a())()", "new(a)", "new new a", "new new a()", "new new a()()", "new this", "new 5", "new 'a'",
            "new{}", "new[]", "new function(){}", "new function f(){}()", "new null", "new a\n(b)", "new a;", "new a+b", "new a()()", "new a(b,c).d", "new a[b,c]");
        all("2:1", "new", "new;", "new -a", "new !a", "new typeof a", "new ++a", "new delete a.b", "new )", "new a.", "new a[", "new a[]", "new a(", "new a(b", "new a(,)", "new a b", "new .a",
            "new ()", "new a(b c)", "new var", "new a.5", "new new");
        same("new a().b", "(new a()).b");
        same("new a.b()", "new (a.b)()");
        same("new a()()", "(new a())()");
        same("new new a()", "new (new a())");
        same("new new a()()", "new (new a())()");
        same("new new new a(1)(2)(3)", "new (new (new a(1))(2))(3)");
        same("new a[b]()", "new (a[b])()");
        Kit.check("the call in brackets is called", Kit.code("new (a())"), "undefined GLOBAL:a CALL0 NEW0:0 DROP undefined RETURN");
    }

    private static void primaries() {
        Kit.sentence("PRIMARY: this, a name, a literal, ( E ), [ .. ], { .. }, function [NAME] ( names ) { PARTS }");
        all("0", "this", "a", "5", "'a'", "true", "false", "null", "undefined", "NaN", "(a)", "(a,b)", "((a))", "[]", "[a]", "[a,b]", "[[]]", "[a=b]", "[(a,b)]", "({})", "({a:b})",
            "({a:b,c:d})", "({a:b=c})", "({a:(b,c)})", "({a:{}})", "x=function(){}", "x=function f(){}", "x=function(a){return a}", "[a,b\n]", "({a\n:\nb\n})");
        all("2:1", "()", "(", "(a", "(a,)", "(,a)", "(a b)", "(;)", "[", "[,]", "[a,,b]", "[a b]", "[a;b]", "[a", "[,a]", "x={a}", "x={a:}", "x={:b}", "x={a:b c:d}", "x={a:b;c:d}",
            "x={(a):b}", "x={-1:b}", "x={[a]:b}", "x={a:b,,c:d}", "x={,}", "x={", "x={a", "x={a:", "x={a:b", "x={a::b}", "x={a=b}", "x={a:b}}", "[a]]", "(a))", "x=function if(){}",
            "x=if", "x=var", "var=1", "if=1", "x={a.b:c}", "case", "[var a]", "({a:b,c})", "[a:b]");
    }

    private static String list(String one, int n) {
        return n == 0 ? "" : one + times("," + one, n - 1);
    }

    private static void counts() {
        Kit.sentence("( up to 8 A with commas )");
        for (int n = 0; n <= 10; n++) {
            String want = n <= 8 ? "0" : "2:1";
            fault("f(" + list("1", n) + ")", want);
            fault("o.f(" + list("1", n) + ")", want);
            fault("new f(" + list("1", n) + ")", want);
            fault("x=function(){}(" + list("1", n) + ")", want);
            if (n <= 8) {
                Kit.check(n + " arguments", Kit.code("f(" + list("1", n) + ")").contains("CALL" + n + " "), true);
                Kit.check(n + " arguments of NEW", Kit.code("new f(" + list("1", n) + ")").contains("NEW" + n + ":0 "), true);
            }
        }
        fault("f(" + list("1", 8) + "\n,1)", "2:2");
        fault("new f(" + list("1", 8) + "\n,1)", "2:2");
        fault("f(" + list("1", 8) + "\n)", "0");
        fault("f(" + list("1", 8) + ",\n1)", "2:1");
        fault("new f(" + list("1", 8) + ",\n1)", "2:1");
        fault("[" + list("1", 16) + ",\n1]", "2:1");
        fault("x={" + list("a:1", 16) + ",\na:1}", "2:1");
        fault("function z(a,b,c,d,e,f,g,h,\ni){}", "2:1");
        fault("x=function(a,b,c,d,e,f,g,h,\ni){}", "2:1");
        Kit.sentence("[ up to 16 A with commas ]");
        for (int n = 0; n <= 18; n++) {
            fault("[" + list("1", n) + "]", n <= 16 ? "0" : "2:1");
            fault("x={" + list("a:1", n) + "}", n <= 16 ? "0" : "2:1");
            fault("x={" + list("5:1", n) + "}", n <= 16 ? "0" : "2:1");
        }
        fault("[" + list("1", 16) + "\n,1]", "2:2");
        fault("[" + list("1", 16) + "\n]", "0");
        Kit.sentence("{ up to 16 of: a key, :, an A, with commas }");
        fault("x={" + list("a:1", 16) + "\n,a:1}", "2:2");
        fault("x={" + list("'a':1", 16) + "\n}", "0");
        Kit.sentence("names, unlike each other, with commas; 8 at most");
        for (int n = 0; n <= 10; n++) {
            String names = "a,b,c,d,e,f,g,h,i,j".substring(0, n == 0 ? 0 : 2 * n - 1);
            fault("function z(" + names + "){}", n <= 8 ? "0" : "2:1");
            fault("x=function(" + names + "){}", n <= 8 ? "0" : "2:1");
        }
        fault("function z(a,b,c,d,e,f,g,h\n,i){}", "2:2");
    }

    private static void keys() {
        Kit.sentence("A key is a name, string or number; behind . and as a key keywords are names, too.");
        for (String word : KEYWORDS) {
            fault("a." + word, "0");
            fault("a." + word + "=1", "0");
            fault("new a." + word, "0");
            fault("a." + word + "()", "0");
            fault("x={" + word + ":1}", "0");
            Kit.check("key " + word, Kit.code("x={" + word + ":1}").contains("COPY '" + word + "' 1 PUT"), true);
            Kit.check("member " + word, Kit.code("a." + word).startsWith("GLOBAL:a '" + word + "' GET"), true);
        }
        all("0", "x={a:1,'b':2,3:4,\"c\":5}", "x={'':1}", "x={0:1}", "x={2147483647:1}", "x={'a b':1}", "x={a:1,a:2}", "a.b.if.c");
        all("2:1", "x={this.a:1}", "x={+1:1}", "x={(1):1}", "x={{}:1}", "x={[]:1}", "a.1", "a.''", "a.(if)");
        all("1:1", "x={2147483648:1}", "x={1a:1}");
    }

    private static void lastCommas() {
        Kit.sentence("No comma stands behind the last one.");
        all("2:1", "f(1,)", "f(1,2,)", "f(,)", "new f(1,)", "o.f(1,)", "[1,]", "[1,2,]", "[,]", "x={a:1,}", "x={a:1,b:2,}", "x={,}", "function f(a,){}", "x=function(a,){}", "var a,", "(a,)",
            "a[b,]", "for(a,;;);", "f(" + list("1", 8) + ",)", "[" + list("1", 16) + ",]", "x={" + list("a:1", 16) + ",}");
        fault("[1,\n]", "2:2");
        fault("f(1,\n)", "2:2");
        fault("x={a:1,\n}", "2:2");
        fault("[" + list("1", 16) + "\n,]", "2:2");
    }
}
