/** Section 2 of the terms and promises 5 to 7: numbers and their bounds, and the code where ways go through tries and loops. */
public final class CodeBoundsTest {
    private CodeBoundsTest() {
    }

    public static void main(String[] args) {
        functionNumbers();
        nameNumbers();
        variableOrder();
        distances();
        fields();
        siteNumbers();
        heads();
        loneNames();
        members();
        goals();
        drops();
        places();
        switches();
        instructions();
        counts();
        letters();
        Kit.end("CodeBoundsTest");
    }

    private static void code(String text, String want) {
        ScriptTypes x = Kit.script(text);
        Kit.check("code of " + text, Kit.code(x), want + (want.isEmpty() ? "" : " ") + "undefined RETURN");
        noStray(text);
    }

    private static void function(String body, String want) {
        Kit.check("code of a function " + body, Kit.code("function f(p){" + body + "}"), "FUNCTION1 SETGLOBAL:f DROP undefined RETURN " + want);
        noStray("function f(p){" + body + "}");
    }

    // (0 where none is told)
    private static void noStray(String text) {
        Kit.check("places with an a or b that is not told, of " + text, Kit.stray(Kit.script(text)), "");
    }

    // The functions of all instructions, as one word.
    private static String owners(ScriptTypes x) {
        StringBuilder s = new StringBuilder();
        for (int k = 0; k < x.count(0); k++) {
            s.append(x.instruction(k, 3));
        }
        return s.toString();
    }

    private static void functionNumbers() {
        Kit.sentence("FUNCTIONS are numbered by their word function, from 1 on; 0 is the script.");
        Kit.check("none", owners(Kit.script("a")), "0000");
        Kit.check("code of functions", Kit.code("x=function(){y=function(){1}};function g(){2}"),
            "FUNCTION3 SETGLOBAL:g DROP FUNCTION1 SETGLOBAL:x DROP undefined RETURN FUNCTION2 SETGLOBAL:y DROP undefined RETURN 1 DROP undefined RETURN 2 DROP undefined RETURN");
        Kit.sentence("The codes of all functions lie one behind the other, the script's first; PLACES are numbers in all.");
        Kit.check("owners", owners(Kit.script("x=function(){y=function(){1}};function g(){2}")), "00000000" + "11111" + "2222" + "3333");
        Kit.check("a jump in a function", Kit.code("function f(){while(a);}"), "FUNCTION1 SETGLOBAL:f DROP undefined RETURN GLOBAL:a UNLESS8 JUMP5 undefined RETURN");
        Kit.check("functions of one line", owners(Kit.script("function a(){}function b(){}function c(){}")), "00000000000" + "11" + "22" + "33");
    }

    private static String ownNames(String text) {
        ScriptTypes x = Kit.script(text);
        StringBuilder s = new StringBuilder();
        for (int n = 31; n < x.count(2); n++) {
            s.append(n > 31 ? " " : "").append(Kit.string(x, n));
        }
        return s.toString();
    }

    private static void nameNumbers() {
        Kit.sentence("NAMES are numbered texts: 0 length .. 30 the empty one; then each other text, as they come first");
        String[] first = ("length prototype constructor message name print Object Array String isNaN Error TypeError ReferenceError RangeError push pop call hasOwnProperty "
            + "charAt undefined object boolean number string function null true false NaN [object]").split(" ");
        ScriptTypes x = Kit.script("");
        for (int n = 0; n < 30; n++) {
            Kit.check("name " + n, Kit.string(x, n), first[n]);
        }
        Kit.check("name 30", x.letter(30, 0), -1);
        Kit.check("how many", x.count(2), 31);
        for (String own : first) {
            Kit.check("text of " + own, Kit.script("x='" + own + "'").count(2), 32);
        }
        Kit.check("names of a script", ownNames("var b,a;function f(p,q){c}x=function g(){};a.d['e'];o={h:i,'j':1,2:3};for(var k in l);try{}catch(m){n}"),
            "b a f p q c x g d e o h i j 2 k l m n");
        Kit.check("each once", ownNames("a;a.a;'a';!{a:a};b;'b'"), "a b");
        Kit.check("keywords behind . and as keys", ownNames("length.if;!{while:1,this:2};length.true;!{null:1}"), "if while this");
        Kit.check("keywords alone are none", ownNames("this;typeof 1;void 0;if(1);while(0);true;null;undefined;NaN"), "");
        Kit.check("numbers alone are none", ownNames("5;6+7;length[8]"), "");
        Kit.check("a number's digits, as the int is written", ownNames("!{007:1,0:2,00:3,2147483647:4,7:5};'7';'007'"), "7 0 2147483647 007");
        Kit.check("as they come in the text", ownNames("for(a;b;c)d;switch(e){case f:g;default:h;case i:j}"), "a b c d e f g h i j");
        Kit.check("a key comes ahead of its value", ownNames("!{a:b,c:d}"), "a b c d");
        Kit.check("blanks count", ownNames("'a ';'a';' a';'A'"), "a  a  a A");
        Kit.check("escapes are signs", ownNames("'\\\\';'\\n';\"'\";'\\''"), "\\ \n '");
    }

    private static String variables(String text) {
        ScriptTypes x = Kit.script(text);
        x.begin();
        while (x.count(11) == 1) {
            x.run(1);
        }
        StringBuilder s = new StringBuilder();
        int scope = x.frame(0, 3);
        for (int k = 0; k < x.object(scope, 3); k++) {
            s.append(Kit.string(x, x.property(scope, k, 0))).append(' ');
        }
        return s.toString().trim();
    }

    private static void variableOrder() {
        Kit.sentence("VARIABLES of a function: its parameters; its own name, if it is no declaration; then, as they come in the text, names of var, of for .. in (with var), of catch, "
            + "and of declarations in it, but not of functions in it");
        Kit.check("all sorts", variables("(function f(b,a){var c;for(var d in b);try{}catch(e){}function g(){var h}var i})()"), "b a f c d e g i");
        Kit.check("a declaration's own name is none", variables("function f(b,a){var c}f()"), "b a c");
        Kit.check("each once", variables("(function f(b,a){var a,c,b,f,c;function c(){}for(var a in b);try{}catch(b){}})()"), "b a f c");
        Kit.check("an own name that a parameter has", variables("(function f(a,f){var b})()"), "a f b");
        Kit.check("of var in for, and nested", variables("(function(){if(0){var a}else for(var b=1;0;);while(0){try{var c}finally{var d}}switch(0){case 1:var e}do var f;while(0)})()"),
            "a b c d e f");
        Kit.check("none of for in without var, of functions in it", variables("(function(){for(a in b);(function g(h){var i});try{}finally{}})()"), "");
        Kit.check("declarations in the text's order", variables("(function(){function b(){}var a;function c(){}})()"), "b a c");
        Kit.check("catch ahead of what is in it", variables("(function(){try{var a}catch(b){var c}finally{var d}})()"), "a b c d");
    }

    private static void distances() {
        Kit.sentence("A name means that of the innermost function around it that has such a variable (b its name, a how many functions farther out that is), otherwise, and those of the "
            + "script, a GLOBAL.");
        Kit.check("distances", Kit.code("var a;function f(b){(function g(c){(function(d){a;b;c;d;f;g;b=c=d=a=g})})}").replaceAll(".*FUNCTION3 DROP undefined RETURN ", ""),
            "GLOBAL:a DROP LOAD2:b DROP LOAD1:c DROP LOAD0:d DROP GLOBAL:f DROP LOAD1:g DROP LOAD1:g SETGLOBAL:a STORE0:d STORE1:c STORE2:b DROP undefined RETURN");
        Kit.check("functions without variables count", Kit.code("function f(a){(function(){(function(){a})})}").replaceAll(".*FUNCTION3 DROP undefined RETURN ", ""),
            "LOAD2:a DROP undefined RETURN");
        Kit.check("the innermost one", Kit.code("function f(a){(function(a){a})}").replaceAll(".*FUNCTION2 DROP undefined RETURN ", ""), "LOAD0:a DROP undefined RETURN");
        Kit.check("a var that stands behind", Kit.code("function f(){a;var a}").replaceAll(".*DROP undefined RETURN LOAD", "LOAD"), "LOAD0:a DROP undefined RETURN");
        Kit.check("a var of a function in it is another's", Kit.code("function f(){a;(function(){var a})}").split(" ")[5], "GLOBAL:a");
        Kit.check("typeof", Kit.code("function f(a){typeof a;(function(){typeof a;typeof b})}"),
            "FUNCTION1 SETGLOBAL:f DROP undefined RETURN LOAD0:a UNARY4 DROP FUNCTION2 DROP undefined RETURN LOAD1:a UNARY4 DROP TYPEGLOBAL:b DROP undefined RETURN");
        Kit.check("++ of one farther out", Kit.code("function f(a){(function(){a++;a+=2;--a})}").replaceAll(".*FUNCTION2 DROP undefined RETURN ", ""),
            "LOAD1:a UNARY0 COPY 1 BINARY0 STORE1:a DROP DROP LOAD1:a 2 BINARY0 STORE1:a DROP LOAD1:a UNARY0 1 BINARY1 STORE1:a DROP undefined RETURN");
        Kit.check("for in and catch set one farther out", Kit.code("function f(a){(function(){for(a in 1);})}").replaceAll(".*FUNCTION2 DROP undefined RETURN ", ""),
            "1 NAMESOF NEXT15 STORE1:a DROP JUMP11 undefined RETURN");
    }

    // Operation, a, b of each instruction, as they are told.
    private static String raw(ScriptTypes x) {
        StringBuilder s = new StringBuilder();
        for (int k = 0; k < x.count(0); k++) {
            s.append(k > 0 ? " " : "").append(x.instruction(k, 0)).append(',').append(x.instruction(k, 1)).append(',').append(x.instruction(k, 2));
        }
        return s.toString();
    }

    private static void fields() {
        Kit.sentence("An INSTRUCTION has an OPERATION, a and b (0 where none is told).");
        Kit.check("constants", raw(Kit.script("undefined;null;true;false;NaN;7;'a'")), "0,0,0 17,0,0 0,1,0 17,0,0 0,2,0 17,0,0 0,3,0 17,0,0 0,4,0 17,0,0 0,5,7 17,0,0 0,6,31 17,0,0 "
            + "0,0,0 25,0,0");
        Kit.check("globals", raw(Kit.script("a=b;typeof c;this")), "3,0,32 4,0,31 17,0,0 5,0,33 17,0,0 6,0,0 17,0,0 0,0,0 25,0,0");
        Kit.check("variables", raw(Kit.script("function f(a){a=a}")), "9,1,0 4,0,31 17,0,0 0,0,0 25,0,0 1,0,32 2,0,32 17,0,0 0,0,0 25,0,0");
        Kit.check("objects", raw(Kit.script("!{};[1];function f(){}")),
            "9,1,0 4,0,31 17,0,0 7,0,0 13,3,0 17,0,0 8,1,0 18,0,0 0,5,0 0,5,1 11,0,0 17,0,0 17,0,0 0,0,0 25,0,0 0,0,0 25,0,0");
        Kit.check("members", raw(Kit.script("a.b;a.b+=1;delete a.b;a.b++")), "3,0,31 0,6,32 10,0,0 17,0,0 3,0,31 0,6,32 19,0,0 10,0,0 0,5,1 14,0,0 11,0,0 17,0,0 3,0,31 0,6,32 12,0,0 17,0,0 "
            + "3,0,31 0,6,32 19,0,0 10,0,0 13,0,0 20,0,0 0,5,1 14,0,0 11,0,0 17,0,0 17,0,0 0,0,0 25,0,0");
        Kit.check("calls", raw(Kit.script("a(1,2);new a(3);new a")), "0,0,0 3,0,31 0,5,1 0,5,2 15,2,0 17,0,0 3,0,31 0,5,3 16,1,0 17,0,0 3,0,31 16,0,1 17,0,0 0,0,0 25,0,0");
        Kit.check("ways", raw(Kit.script("a?1:2;a&&3;a||4;while(5);")), "3,0,31 22,4,0 0,5,1 21,5,0 0,5,2 17,0,0 3,0,31 23,9,0 0,5,3 17,0,0 3,0,31 24,13,0 0,5,4 17,0,0 0,5,5 22,17,0 21,14,0 "
            + "0,0,0 25,0,0");
        Kit.check("tries and lists", raw(Kit.script("for(a in 1);try{throw 2}finally{}")), "0,5,1 29,0,0 30,6,0 4,0,31 17,0,0 21,2,0 27,11,0 0,5,2 26,0,0 28,0,0 21,12,0 26,0,0 0,0,0 25,0,0");
        for (String text : new String[] {"var a,b=1;function f(){var c=2;return}x=function(){};a,b;a+b;a&&b;a||b;a?b:a", "o={k:1};o.k++;o.k+=1;--o.k;o[1]--;x++;--x;delete o.k;typeof x;typeof o.k;void 0",
            "if(a)b;else c;while(a){break;continue}do{break;continue}while(a)for(;;){break}for(;a;b){continue}for(var k in a){break;continue}", "switch(a){case 1:b;default:c;break}throw a",
            "try{a}catch(e){b}finally{c}while(a)try{break}finally{continue}", "function f(){for(k in a)try{return 1}finally{break}return 2}function g(){try{try{return}finally{return}}finally{a}}",
            "f(1);o.f(2);new F(3);new F;[1,{k:2}];(o.k)();this;-a;+a;~a;!a;'s';undefined;null;true;false;NaN"}) {
            noStray(text);
        }
        String[] unary = {"+", "-", "~", "!", "typeof "};
        for (int i = 0; i < unary.length; i++) {
            Kit.check("unary " + unary[i], raw(Kit.script(unary[i] + "1")), "0,5,1 13," + i + ",0 17,0,0 0,0,0 25,0,0");
        }
    }

    private static void siteNumbers() {
        Kit.sentence("A SITE is numbered where its instruction comes (OBJECT, ARRAY, NEW; in each code of a finally's F anew; a function has one code).");
        code("[[]];!{a:{}};new a([])", "ARRAY0 COPY 0 ARRAY1 PUT DROP DROP OBJECT2 COPY 'a' OBJECT3 PUT DROP UNARY3 DROP GLOBAL:a ARRAY4 NEW1:5 DROP");
        code("new new a", "GLOBAL:a NEW0:0 NEW0:1 DROP");
        code("try{[]}finally{[];new a}", "TRY10 ARRAY0 DROP LEAVE ARRAY1 DROP GLOBAL:a NEW0:2 DROP JUMP16 ARRAY3 DROP GLOBAL:a NEW0:4 DROP THROW");
        code("while(1)try{break}finally{[]}", "1 UNLESS15 TRY11 LEAVE ARRAY0 DROP JUMP15 LEAVE ARRAY1 DROP JUMP14 ARRAY2 DROP THROW JUMP0");
        code("for(;;[])({})", "OBJECT0 DROP ARRAY1 DROP JUMP0");
        code("switch(1){case []:({});case new a:}", "1 COPY ARRAY0 BINARY13 UNLESS7 DROP JUMP16 COPY GLOBAL:a NEW0:1 BINARY13 UNLESS14 DROP JUMP18 DROP JUMP18 OBJECT2 DROP");
        Kit.check("sites of functions lie behind", Kit.code("x=function(){[]};[];y=function(){({})}"),
            "FUNCTION1 SETGLOBAL:x DROP ARRAY0 DROP FUNCTION2 SETGLOBAL:y DROP undefined RETURN ARRAY1 DROP undefined RETURN OBJECT2 DROP undefined RETURN");
        Kit.check("a function in a finally's F has one code", Kit.code("try{}finally{x=function(){[]}}"),
            "TRY6 LEAVE FUNCTION1 SETGLOBAL:x DROP JUMP10 FUNCTION1 SETGLOBAL:x DROP THROW undefined RETURN ARRAY0 DROP undefined RETURN");
        Kit.check("counts of it", Kit.script("try{}finally{x=function(){[]}}").count(1) + " " + Kit.script("try{}finally{x=function(){[]}}").count(4), "2 1");
    }

    private static void heads() {
        Kit.sentence("of the script first, for each name that is var's, for in's (with var) or catch's in it (not in functions), once, as they come first: CONSTANT undefined, SET, DROP");
        code("1;try{}catch(b){}for(var a in 2);for(c in 3);var d,b", "undefined SETGLOBAL:b DROP undefined SETGLOBAL:a DROP undefined SETGLOBAL:d DROP 1 DROP TRY14 LEAVE JUMP16 "
            + "SETGLOBAL:b DROP 2 NAMESOF NEXT22 SETGLOBAL:a DROP JUMP18 3 NAMESOF NEXT28 SETGLOBAL:c DROP JUMP24");
        code("var a,a;var a", "undefined SETGLOBAL:a DROP");
        code("try{}finally{var a}", "undefined SETGLOBAL:a DROP TRY6 LEAVE JUMP7 THROW");
        Kit.check("not in functions", Kit.code("function f(){var a}x=function(){for(var b in 1);}"),
            "FUNCTION1 SETGLOBAL:f DROP FUNCTION2 SETGLOBAL:x DROP undefined RETURN undefined RETURN 1 NAMESOF NEXT16 STORE0:b DROP JUMP12 undefined RETURN");
        Kit.sentence("of all: for each declaration on its outermost level, in order: FUNCTION, SET its name, DROP");
        Kit.check("in order, each", Kit.code("1;function b(){}2;function a(){}function b(){}var b"),
            "undefined SETGLOBAL:b DROP FUNCTION1 SETGLOBAL:b DROP FUNCTION2 SETGLOBAL:a DROP FUNCTION3 SETGLOBAL:b DROP 1 DROP 2 DROP undefined RETURN undefined RETURN undefined RETURN "
            + "undefined RETURN");
        function("1;function g(){}var a;function h(){}", "FUNCTION2 STORE0:g DROP FUNCTION3 STORE0:h DROP 1 DROP undefined RETURN undefined RETURN undefined RETURN");
        function("function p(){}", "FUNCTION2 STORE0:p DROP undefined RETURN undefined RETURN");
        Kit.sentence("its parts' code (of declarations none); CONSTANT undefined, RETURN");
        code("", "");
        code(";;{}", "");
        function("return 1", "1 RETURN undefined RETURN");
    }

    private static void loneNames() {
        Kit.sentence("typeof: likewise, but of a name alone (no brackets around) that is global: TYPE GLOBAL");
        code("typeof a", "TYPEGLOBAL:a DROP");
        code("typeof (a)", "GLOBAL:a UNARY4 DROP");
        code("typeof a.b", "GLOBAL:a 'b' GET UNARY4 DROP");
        code("typeof a()", "undefined GLOBAL:a CALL0 UNARY4 DROP");
        code("typeof a[1]", "GLOBAL:a 1 GET UNARY4 DROP");
        code("typeof a++", "GLOBAL:a UNARY0 COPY 1 BINARY0 SETGLOBAL:a DROP UNARY4 DROP");
        code("typeof -a", "GLOBAL:a UNARY1 UNARY4 DROP");
        code("typeof typeof a", "TYPEGLOBAL:a UNARY4 DROP");
        code("typeof a+b", "TYPEGLOBAL:a GLOBAL:b BINARY0 DROP");
        code("typeof new a", "GLOBAL:a NEW0:0 UNARY4 DROP");
        code("typeof a\n(b)", "undefined GLOBAL:a GLOBAL:b CALL1 UNARY4 DROP");
        function("typeof p;typeof q", "LOAD0:p UNARY4 DROP TYPEGLOBAL:q DROP undefined RETURN");
    }

    private static void members() {
        Kit.sentence("f(..): of a member (o.k or o[e], no ( ) around it): code of o, COPY, KEY, GET; of others ((o.k), too): CONSTANT undefined, code of f");
        code("a.b()", "GLOBAL:a COPY 'b' GET CALL0 DROP");
        code("a[b]()", "GLOBAL:a COPY GLOBAL:b GET CALL0 DROP");
        code("(a.b)()", "undefined GLOBAL:a 'b' GET CALL0 DROP");
        code("((a.b))()", "undefined GLOBAL:a 'b' GET CALL0 DROP");
        code("(a[b])()", "undefined GLOBAL:a GLOBAL:b GET CALL0 DROP");
        code("(a).b()", "GLOBAL:a COPY 'b' GET CALL0 DROP");
        code("a()()", "undefined undefined GLOBAL:a CALL0 CALL0 DROP");
        code("a.b()()", "undefined GLOBAL:a COPY 'b' GET CALL0 CALL0 DROP");
        code("a.b().c(1)", "GLOBAL:a COPY 'b' GET CALL0 COPY 'c' GET 1 CALL1 DROP");
        code("a.b.c()", "GLOBAL:a 'b' GET COPY 'c' GET CALL0 DROP");
        code("new a().b()", "GLOBAL:a NEW0:0 COPY 'b' GET CALL0 DROP");
        code("new a()()", "undefined GLOBAL:a NEW0:0 CALL0 DROP");
        code("new (a.b)()", "GLOBAL:a 'b' GET NEW0:0 DROP");
        code("new (a.b())", "GLOBAL:a COPY 'b' GET CALL0 NEW0:0 DROP");
        code("(a,b.c)()", "undefined GLOBAL:a DROP GLOBAL:b 'c' GET CALL0 DROP");
        code("5()", "undefined 5 CALL0 DROP");
        code("'a'.b()", "'a' COPY 'b' GET CALL0 DROP");
        code("a.b(c.d(1),e(2))", "GLOBAL:a COPY 'b' GET GLOBAL:c COPY 'd' GET 1 CALL1 undefined GLOBAL:e 2 CALL1 CALL2 DROP");
        code("a[b.c()]()", "GLOBAL:a COPY GLOBAL:b COPY 'c' GET CALL0 GET CALL0 DROP");
        code("delete a.b.c", "GLOBAL:a 'b' GET 'c' DELETE DROP");
        code("delete a().b", "undefined GLOBAL:a CALL0 'b' DELETE DROP");
    }

    private static void goals() {
        Kit.sentence("continue goes to top (of while, for in), test, step; break to end.");
        code("while(a){continue;b;break}", "GLOBAL:a UNLESS7 JUMP0 GLOBAL:b DROP JUMP7 JUMP0");
        code("do{continue;b;break}while(a)", "JUMP4 GLOBAL:b DROP JUMP7 GLOBAL:a UNLESS7 JUMP0");
        code("for(a;b;c){continue;d;break}", "GLOBAL:a DROP GLOBAL:b UNLESS11 JUMP8 GLOBAL:d DROP JUMP11 GLOBAL:c DROP JUMP2");
        code("for(;;){continue;a;break}", "JUMP4 GLOBAL:a DROP JUMP5 JUMP0");
        code("for(;a;){continue}", "GLOBAL:a UNLESS4 JUMP3 JUMP0");
        code("for(a in b){continue;c;break}", "GLOBAL:b NAMESOF NEXT11 SETGLOBAL:a DROP JUMP2 GLOBAL:c DROP DROP JUMP11 JUMP2");
        code("while(a)while(b){break}", "GLOBAL:a UNLESS7 GLOBAL:b UNLESS6 JUMP6 JUMP2 JUMP0");
        code("while(a){while(b);continue}", "GLOBAL:a UNLESS7 GLOBAL:b UNLESS5 JUMP2 JUMP0 JUMP0");
        code("while(a)switch(b){case 1:continue;default:break}", "GLOBAL:a UNLESS14 GLOBAL:b COPY 1 BINARY13 UNLESS9 DROP JUMP11 DROP JUMP12 JUMP0 JUMP13 JUMP0");
        code("a;do{continue;b;break}while(c)", "GLOBAL:a DROP JUMP6 GLOBAL:b DROP JUMP9 GLOBAL:c UNLESS9 JUMP2");
        code("if(a);else if(b);else;", "GLOBAL:a UNLESS3 JUMP6 GLOBAL:b UNLESS6 JUMP6");
    }

    private static void drops() {
        Kit.sentence("return: E (or CONSTANT undefined); then, for each try around it in the function whose LEAVE (of B) has not come, from the innermost out: LEAVE, and F if it has one");
        function("try{return 1}catch(e){}", "TRY11 1 LEAVE RETURN LEAVE JUMP13 STORE0:e DROP undefined RETURN");
        function("try{}catch(e){return 1}", "TRY8 LEAVE JUMP12 STORE0:e DROP 1 RETURN undefined RETURN");
        function("try{}finally{return 1}", "TRY10 LEAVE 1 RETURN JUMP13 1 RETURN THROW undefined RETURN");
        function("try{return 1}finally{p}", "TRY15 1 LEAVE LOAD0:p DROP RETURN LEAVE LOAD0:p DROP JUMP18 LOAD0:p DROP THROW undefined RETURN");
        function("try{try{return 1}finally{2}}finally{3}",
            "TRY26 TRY19 1 LEAVE 2 DROP LEAVE 3 DROP RETURN LEAVE 2 DROP JUMP22 2 DROP THROW LEAVE 3 DROP JUMP29 3 DROP THROW undefined RETURN");
        function("try{try{return 1}catch(e){}}finally{2}", "TRY21 TRY15 1 LEAVE LEAVE 2 DROP RETURN LEAVE JUMP17 STORE0:e DROP LEAVE 2 DROP JUMP24 2 DROP THROW undefined RETURN");
        Kit.sentence("(what stands in this F sees the tries around that try alone)");
        function("try{try{return 1}finally{return 2}}finally{3}", "TRY35 TRY25 1 LEAVE 2 LEAVE 3 DROP RETURN LEAVE 3 DROP RETURN LEAVE 2 LEAVE 3 DROP RETURN JUMP31 2 LEAVE 3 DROP RETURN THROW "
            + "LEAVE 3 DROP JUMP38 3 DROP THROW undefined RETURN");
        Kit.sentence("break, continue: likewise for those within the loop or switch");
        code("try{while(1)break}finally{2}", "TRY9 1 UNLESS5 JUMP5 JUMP1 LEAVE 2 DROP JUMP12 2 DROP THROW");
        code("while(1){try{break}catch(e){continue}}", "undefined SETGLOBAL:e DROP 1 UNLESS14 TRY10 LEAVE JUMP14 LEAVE JUMP13 SETGLOBAL:e DROP JUMP3 JUMP3");
        code("while(1)try{try{break}finally{2}}finally{3}",
            "1 UNLESS26 TRY22 TRY15 LEAVE 2 DROP LEAVE 3 DROP JUMP26 LEAVE 2 DROP JUMP18 2 DROP THROW LEAVE 3 DROP JUMP25 3 DROP THROW JUMP0");
        code("try{while(1)try{continue}finally{2}}finally{3}", "TRY20 1 UNLESS16 TRY12 LEAVE 2 DROP JUMP1 LEAVE 2 DROP JUMP15 2 DROP THROW JUMP1 LEAVE 3 DROP JUMP23 3 DROP THROW");
        code("while(1)try{switch(2){default:break}}finally{3}", "1 UNLESS15 TRY11 2 DROP JUMP6 JUMP7 LEAVE 3 DROP JUMP14 3 DROP THROW JUMP0");
        code("while(1)try{switch(2){default:continue}}finally{3}", "1 UNLESS18 TRY14 2 DROP JUMP6 LEAVE 3 DROP JUMP0 LEAVE 3 DROP JUMP17 3 DROP THROW JUMP0");
    }

    private static void places() {
        Kit.sentence("for each value that lies on the stack above what lay there ahead of the whole for in, switch or loop (of continue: that lay there at its goal) a DROP, each in its place: "
            + "ahead of what is farther out");
        code("for(a in b)break", "GLOBAL:b NAMESOF NEXT8 SETGLOBAL:a DROP DROP JUMP8 JUMP2");
        code("for(a in b)continue", "GLOBAL:b NAMESOF NEXT7 SETGLOBAL:a DROP JUMP2 JUMP2");
        code("while(1)for(a in b)break", "1 UNLESS11 GLOBAL:b NAMESOF NEXT10 SETGLOBAL:a DROP DROP JUMP10 JUMP4 JUMP0");
        code("for(a in b)while(1)break", "GLOBAL:b NAMESOF NEXT10 SETGLOBAL:a DROP 1 UNLESS9 JUMP9 JUMP5 JUMP2");
        code("for(a in b)try{break}finally{1}", "GLOBAL:b NAMESOF NEXT19 SETGLOBAL:a DROP TRY15 LEAVE 1 DROP DROP JUMP19 LEAVE 1 DROP JUMP18 1 DROP THROW JUMP2");
        code("for(a in b)try{continue}finally{1}", "GLOBAL:b NAMESOF NEXT18 SETGLOBAL:a DROP TRY14 LEAVE 1 DROP JUMP2 LEAVE 1 DROP JUMP17 1 DROP THROW JUMP2");
        Kit.sentence("the value in h behind F's beginning");
        code("while(1)try{}finally{break}", "1 UNLESS10 TRY6 LEAVE JUMP10 JUMP9 DROP JUMP10 THROW JUMP0");
        code("while(1)try{}finally{continue}", "1 UNLESS10 TRY6 LEAVE JUMP0 JUMP9 DROP JUMP0 THROW JUMP0");
        code("for(a in b)try{}finally{break}", "GLOBAL:b NAMESOF NEXT15 SETGLOBAL:a DROP TRY10 LEAVE DROP JUMP15 JUMP14 DROP DROP JUMP15 THROW JUMP2");
        code("try{}finally{while(1)break}", "TRY7 LEAVE 1 UNLESS6 JUMP6 JUMP2 JUMP12 1 UNLESS11 JUMP11 JUMP7 THROW");
        code("for(a in b)try{try{}finally{break}}finally{1}",
            "GLOBAL:b NAMESOF NEXT29 SETGLOBAL:a DROP TRY25 TRY14 LEAVE LEAVE 1 DROP DROP JUMP29 JUMP21 DROP LEAVE 1 DROP DROP JUMP29 THROW LEAVE 1 DROP JUMP28 1 DROP THROW JUMP2");
        code("while(1)try{break}finally{continue}", "1 UNLESS13 TRY9 LEAVE JUMP0 JUMP13 LEAVE JUMP0 JUMP12 DROP JUMP0 THROW JUMP0");
        code("for(a in b)try{break}finally{break}", "GLOBAL:b NAMESOF NEXT20 SETGLOBAL:a DROP TRY15 LEAVE DROP JUMP20 DROP JUMP20 LEAVE DROP JUMP20 JUMP19 DROP DROP JUMP20 THROW JUMP2");
        Kit.sentence("return's value, in an F that it goes through");
        function("while(1)try{return 2}finally{break}", "1 UNLESS20 TRY16 2 LEAVE DROP JUMP20 RETURN LEAVE JUMP20 JUMP19 DROP JUMP20 THROW JUMP5 undefined RETURN");
        function("while(1)try{return 2}finally{continue}", "1 UNLESS20 TRY16 2 LEAVE DROP JUMP5 RETURN LEAVE JUMP5 JUMP19 DROP JUMP5 THROW JUMP5 undefined RETURN");
        function("for(p in 1)try{return 2}finally{break}",
            "1 NAMESOF NEXT26 STORE0:p DROP TRY21 2 LEAVE DROP DROP JUMP26 RETURN LEAVE DROP JUMP26 JUMP25 DROP DROP JUMP26 THROW JUMP7 undefined RETURN");
        function("for(p in 1)try{return 2}finally{continue}",
            "1 NAMESOF NEXT23 STORE0:p DROP TRY19 2 LEAVE DROP JUMP7 RETURN LEAVE JUMP7 JUMP22 DROP JUMP7 THROW JUMP7 undefined RETURN");
        function("while(1)try{for(p in 1)return 2}finally{break}",
            "1 UNLESS27 TRY23 1 NAMESOF NEXT20 STORE0:p DROP 2 LEAVE DROP DROP JUMP27 RETURN JUMP10 LEAVE JUMP27 JUMP26 DROP JUMP27 THROW JUMP5 undefined RETURN");
        function("while(1)try{try{}finally{return 2}}finally{break}",
            "1 UNLESS30 TRY26 TRY16 LEAVE 2 LEAVE DROP JUMP30 RETURN JUMP23 2 LEAVE DROP DROP JUMP30 RETURN THROW LEAVE JUMP30 JUMP29 DROP JUMP30 THROW JUMP5 undefined RETURN");
        function("while(1)try{for(p in 1)try{}finally{return 2}}finally{break}", "1 UNLESS38 TRY34 1 NAMESOF NEXT31 STORE0:p DROP TRY22 LEAVE 2 LEAVE DROP DROP JUMP38 RETURN JUMP30 "
            + "2 LEAVE DROP DROP DROP JUMP38 RETURN THROW JUMP10 LEAVE JUMP38 JUMP37 DROP JUMP38 THROW JUMP5 undefined RETURN");
        function("for(p in 1)return 2", "1 NAMESOF NEXT13 STORE0:p DROP 2 RETURN JUMP7 undefined RETURN");
        function("for(p in 1)try{try{return 2}finally{break}}finally{3}", "1 NAMESOF NEXT46 STORE0:p DROP TRY42 TRY31 2 LEAVE DROP LEAVE 3 DROP DROP JUMP46 LEAVE 3 DROP RETURN "
            + "LEAVE LEAVE 3 DROP DROP JUMP46 JUMP38 DROP LEAVE 3 DROP DROP JUMP46 THROW LEAVE 3 DROP JUMP45 3 DROP THROW JUMP7 undefined RETURN");
        function("try{return 1}finally{for(p in 2)break}", "TRY27 1 LEAVE 2 NAMESOF NEXT16 STORE0:p DROP DROP JUMP16 JUMP10 RETURN LEAVE 2 NAMESOF NEXT26 STORE0:p DROP DROP JUMP26 JUMP20 "
            + "JUMP36 2 NAMESOF NEXT35 STORE0:p DROP DROP JUMP35 JUMP29 THROW undefined RETURN");
    }

    private static void switches() {
        Kit.sentence("switch: E; for each case in order: COPY, its E, BINARY ===, UNLESS next, DROP, JUMP to its statements; behind the last one DROP, JUMP to those of default (end, if there is "
            + "none); then all statements, in order");
        code("switch(1){}", "1 DROP JUMP3");
        code("switch(1){default:}", "1 DROP JUMP3");
        code("switch(1){default:2}", "1 DROP JUMP3 2 DROP");
        code("switch(1){case 2:3}", "1 COPY 2 BINARY13 UNLESS7 DROP JUMP9 DROP JUMP11 3 DROP");
        code("switch(1){default:2;case 3:4}", "1 COPY 3 BINARY13 UNLESS7 DROP JUMP11 DROP JUMP9 2 DROP 4 DROP");
        code("switch(1){case 2:default:case 3:4;break;5}", "1 COPY 2 BINARY13 UNLESS7 DROP JUMP15 COPY 3 BINARY13 UNLESS13 DROP JUMP15 DROP JUMP15 4 DROP JUMP20 5 DROP");
        code("switch(1){case 2:switch(3){case 4:break}break}",
            "1 COPY 2 BINARY13 UNLESS7 DROP JUMP9 DROP JUMP20 3 COPY 4 BINARY13 UNLESS16 DROP JUMP18 DROP JUMP19 JUMP19 JUMP20");
        code("switch(a,b){case c,d:}", "GLOBAL:a DROP GLOBAL:b COPY GLOBAL:c DROP GLOBAL:d BINARY13 UNLESS11 DROP JUMP13 DROP JUMP13");
        Kit.sentence("(In switch's statements its E is dropped already.)");
        code("switch(1){default:try{break}finally{2}}", "1 DROP JUMP3 TRY12 LEAVE 2 DROP JUMP15 LEAVE 2 DROP JUMP15 2 DROP THROW");
        code("for(a in b)switch(1){default:continue}", "GLOBAL:b NAMESOF NEXT10 SETGLOBAL:a DROP 1 DROP JUMP8 JUMP2 JUMP2");
    }

    private static void instructions() {
        Kit.sentence("instruction: NONE if there is none such");
        ScriptTypes x = Kit.script("a=5");
        for (int what = 0; what < 4; what++) {
            Kit.check("instruction -1, " + what, x.instruction(-1, what), -1);
            Kit.check("instruction 5, " + what, x.instruction(5, what), -1);
            Kit.check("a far one", x.instruction(Integer.MAX_VALUE, what) + x.instruction(Integer.MIN_VALUE, what), -2);
        }
        Kit.check("the first one", x.instruction(0, 0) + " " + x.instruction(0, 1) + " " + x.instruction(0, 2) + " " + x.instruction(0, 3), "0 5 5 0");
        Kit.check("the last one", x.instruction(4, 0) + " " + x.instruction(4, 1) + " " + x.instruction(4, 2) + " " + x.instruction(4, 3), "25 0 0 0");
        for (int what : new int[] {-1, 4, 5, Integer.MAX_VALUE, Integer.MIN_VALUE}) {
            Kit.check("what " + what, x.instruction(0, what) + " " + x.instruction(4, what) + " " + x.instruction(-1, what), "-1 -1 -1");
        }
        Kit.check("a new object's", new ScriptTypes().instruction(0, 0), -1);
        Kit.read(x, ")");
        Kit.check("behind a fault", x.instruction(0, 0) + " " + x.instruction(4, 0), "-1 -1");
        Kit.read(x, "");
        Kit.check("of a shorter script", x.instruction(1, 0) + " " + x.instruction(2, 0) + " " + x.instruction(4, 0), "25 -1 -1");
        Kit.check("the largest number", Kit.script("2147483647").instruction(0, 2), 2147483647);
    }

    private static String counts(ScriptTypes x) {
        StringBuilder s = new StringBuilder();
        for (int what = -1; what <= 13; what++) {
            s.append(what == -1 ? "" : " ").append(x.count(what));
        }
        return s.toString();
    }

    private static void counts() {
        Kit.sentence("count: 0 instructions .. 12 instructions that are REACHED; NONE for another what");
        ScriptTypes x = new ScriptTypes();
        Kit.check("of a new object", counts(x), "-1 0 0 0 0 0 0 0 0 0 0 0 0 -1 -1");
        Kit.feed(x, "a=[5]");
        Kit.check("with a tape", counts(x), "-1 0 0 0 0 0 5 0 0 0 0 0 0 -1 -1");
        x.read();
        Kit.check("with a script", counts(x), "-1 10 1 32 31 1 0 0 0 0 0 0 0 -1 -1");
        x.begin();
        Kit.check("begun", counts(x), "-1 10 1 32 31 1 0 1 0 23 32 0 1 -1 -1");
        x.run(3);
        Kit.check("at step 3", counts(x), "-1 10 1 32 31 1 0 1 3 24 32 0 1 -1 -1");
        x.solve();
        Kit.check("solved", counts(x), "-1 10 1 32 31 1 0 1 3 24 32 0 1 10 -1");
        x.run(2000);
        Kit.check("ended", counts(x), "-1 10 1 32 31 1 0 2 10 24 33 0 0 10 -1");
        Kit.feed(x, "print(7)");
        Kit.check("a tape changes nothing else", counts(x), "-1 10 1 32 31 1 8 2 10 24 33 0 0 10 -1");
        x.read();
        Kit.check("the next script", counts(x), "-1 7 1 31 29 0 0 0 0 0 0 0 0 -1 -1");
        x.begin();
        x.run(2000);
        Kit.check("a line", counts(x), "-1 7 1 31 29 0 0 2 7 23 32 1 0 -1 -1");
        x.begin();
        Kit.check("begun anew", counts(x), "-1 7 1 31 29 0 0 1 0 23 31 0 1 -1 -1");
        Kit.check("other whats", x.count(Integer.MIN_VALUE) + " " + x.count(Integer.MAX_VALUE) + " " + x.count(14) + " " + x.count(-2), "-1 -1 -1 -1");
        Kit.read(x, "throw 1");
        x.begin();
        x.run(2000);
        Kit.check("uncaught: the step that stops it counts", counts(x), "-1 4 1 31 29 0 0 3 2 23 31 0 0 -1 -1");
        Kit.read(x, "while(1);2");
        Kit.check("reached", x.solve() + " " + x.count(12) + " " + x.count(0), "3 3 7");
        Kit.read(x, "(");
        Kit.check("behind a fault", counts(x), "-1 0 0 0 0 0 0 0 0 0 0 0 0 -1 -1");
    }

    private static void letters() {
        Kit.sentence("letter: Sign k of string s (NAMES first, then those that the machine made, as they came); NONE if there is none such.");
        ScriptTypes x = Kit.script("a='q'+1;b='q'+2;c='q'+1;d='a';e=7+''");
        Kit.check("ahead of the machine's beginning", x.count(2) + " " + x.letter(36, 0) + " " + x.letter(37, 0), "37 101 -1");
        Kit.check("the names' signs", x.letter(0, 0) + " " + x.letter(0, 5) + " " + x.letter(0, 6) + " " + x.letter(0, -1), "108 104 -1 -1");
        x.begin();
        Kit.check("begun", x.letter(37, 0), -1);
        x.run(3);
        Kit.check("the first one that was made", Kit.string(x, 37) + " " + x.letter(37, 2) + " " + x.letter(38, 0) + " " + x.count(9), "q1 -1 -1 38");
        x.run(2000);
        Kit.check("each once, as they came", Kit.string(x, 37) + " " + Kit.string(x, 38) + " " + Kit.string(x, 39) + " " + x.letter(40, 0) + " " + x.count(9), "q1 q2 7 -1 40");
        Kit.check("none such", x.letter(-1, 0) + " " + x.letter(30, 0) + " " + x.letter(30, -1) + " " + x.letter(400, 0) + " " + x.letter(Integer.MAX_VALUE, 0) + " "
            + x.letter(Integer.MIN_VALUE, 0) + " " + x.letter(0, Integer.MAX_VALUE) + " " + x.letter(0, Integer.MIN_VALUE), "-1 -1 -1 -1 -1 -1 -1 -1");
        x.begin();
        Kit.check("begun anew", x.letter(37, 0) + " " + x.count(9), "-1 37");
        Kit.read(x, "");
        Kit.check("the next script's", x.letter(31, 0) + " " + x.letter(29, 0) + " " + x.letter(29, 8), "-1 91 -1");
        Kit.read(x, "(");
        Kit.check("without a script", x.letter(0, 0), -1);
        Kit.check("40 signs", Kit.script("'" + "x".repeat(40) + "'").letter(31, 39) + " " + Kit.script("'" + "x".repeat(40) + "'").letter(31, 40), "120 -1");
    }
}
