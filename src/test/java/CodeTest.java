/** Promise 7 and section 2 of the terms: the code that is made of each form. */
public final class CodeTest {
    private CodeTest() {
    }

    public static void main(String[] args) {
        expressions();
        assignments();
        statements();
        loops();
        jumps();
        tries();
        functions();
        Kit.end("CodeTest");
    }

    // The code of a script, less undefined RETURN at its end.
    private static void code(String text, String want) {
        Kit.check("code of " + text, Kit.code(text), want + (want.isEmpty() ? "" : " ") + "undefined RETURN");
    }

    private static void expressions() {
        code("", "");
        code(";{;}", "");
        code("5;'s';true;false;null;undefined;NaN;this", "5 DROP 's' DROP true DROP false DROP null DROP undefined DROP NaN DROP THIS DROP");
        code("a,b", "GLOBAL:a DROP GLOBAL:b DROP");
        code("[a,[]]", "ARRAY0 COPY 0 GLOBAL:a PUT DROP COPY 1 ARRAY1 PUT DROP DROP");
        code("x={p:a,'q r':1,3:{}}", "OBJECT0 COPY 'p' GLOBAL:a PUT DROP COPY 'q r' 1 PUT DROP COPY '3' OBJECT1 PUT DROP SETGLOBAL:x DROP");
        code("o.k;o[e]", "GLOBAL:o 'k' GET DROP GLOBAL:o GLOBAL:e GET DROP");
        code("f(a,1)", "undefined GLOBAL:f GLOBAL:a 1 CALL2 DROP");
        code("o.k(a)", "GLOBAL:o COPY 'k' GET GLOBAL:a CALL1 DROP");
        code("o[e]()", "GLOBAL:o COPY GLOBAL:e GET CALL0 DROP");
        code("(o.k)()", "undefined GLOBAL:o 'k' GET CALL0 DROP");
        code("(o).k()", "GLOBAL:o COPY 'k' GET CALL0 DROP");
        code("f()()", "undefined undefined GLOBAL:f CALL0 CALL0 DROP");
        code("o.f().g()", "GLOBAL:o COPY 'f' GET CALL0 COPY 'g' GET CALL0 DROP");
        code("a+f(b&&c)(d)", "GLOBAL:a undefined undefined GLOBAL:f GLOBAL:b AND7 GLOBAL:c CALL1 GLOBAL:d CALL1 BINARY0 DROP");
        code("(a&&b)(c)", "undefined GLOBAL:a AND4 GLOBAL:b GLOBAL:c CALL1 DROP");
        code("new F", "GLOBAL:F NEW0:0 DROP");
        code("new F(a)(b)", "undefined GLOBAL:F GLOBAL:a NEW1:0 GLOBAL:b CALL1 DROP");
        code("new o.F(a).p", "GLOBAL:o 'F' GET GLOBAL:a NEW1:0 'p' GET DROP");
        code("new o.F().q()", "GLOBAL:o 'F' GET NEW0:0 COPY 'q' GET CALL0 DROP");
        code("new new F(a)(b)", "GLOBAL:F GLOBAL:a NEW1:0 GLOBAL:b NEW1:1 DROP");
        code("+a;-a;~a;!a", "GLOBAL:a UNARY0 DROP GLOBAL:a UNARY1 DROP GLOBAL:a UNARY2 DROP GLOBAL:a UNARY3 DROP");
        code("typeof a;typeof(a);typeof a.b;typeof 5", "TYPEGLOBAL:a DROP GLOBAL:a UNARY4 DROP GLOBAL:a 'b' GET UNARY4 DROP 5 UNARY4 DROP");
        code("void a;delete o.k;delete o[a]", "GLOBAL:a DROP undefined DROP GLOBAL:o 'k' DELETE DROP GLOBAL:o GLOBAL:a DELETE DROP");
        String[] signs = "+ - * / % << >> >>> & | ^ == != === !== < > <= >= in instanceof".split(" ");
        for (int i = 0; i < signs.length; i++) {
            code("a " + signs[i] + " b", "GLOBAL:a GLOBAL:b BINARY" + i + " DROP");
        }
        code("a+b*c-d", "GLOBAL:a GLOBAL:b GLOBAL:c BINARY2 BINARY0 GLOBAL:d BINARY1 DROP");
        code("a|b^c&d==e<f<<g+h*-i", "GLOBAL:a GLOBAL:b GLOBAL:c GLOBAL:d GLOBAL:e GLOBAL:f GLOBAL:g GLOBAL:h GLOBAL:i UNARY1 "
            + "BINARY2 BINARY0 BINARY5 BINARY15 BINARY11 BINARY8 BINARY10 BINARY9 DROP");
        code("a&&b||c&&d", "GLOBAL:a AND3 GLOBAL:b OR7 GLOBAL:c AND7 GLOBAL:d DROP");
        code("a||b||c", "GLOBAL:a OR3 GLOBAL:b OR5 GLOBAL:c DROP");
        code("a?b:c?d:e", "GLOBAL:a UNLESS4 GLOBAL:b JUMP9 GLOBAL:c UNLESS8 GLOBAL:d JUMP9 GLOBAL:e DROP");
    }

    private static void assignments() {
        code("x=a", "GLOBAL:a SETGLOBAL:x DROP");
        code("x=y=a", "GLOBAL:a SETGLOBAL:y SETGLOBAL:x DROP");
        code("o.k=a;o[e]=a", "GLOBAL:o 'k' GLOBAL:a PUT DROP GLOBAL:o GLOBAL:e GLOBAL:a PUT DROP");
        String[] signs = "+= -= *= /= %= <<= >>= >>>= &= |= ^=".split(" ");
        for (int i = 0; i < signs.length; i++) {
            code("x" + signs[i] + "a", "GLOBAL:x GLOBAL:a BINARY" + i + " SETGLOBAL:x DROP");
        }
        code("o.k+=a", "GLOBAL:o 'k' COPYTWO GET GLOBAL:a BINARY0 PUT DROP");
        code("++x;--x", "GLOBAL:x UNARY0 1 BINARY0 SETGLOBAL:x DROP GLOBAL:x UNARY0 1 BINARY1 SETGLOBAL:x DROP");
        code("x++", "GLOBAL:x UNARY0 COPY 1 BINARY0 SETGLOBAL:x DROP DROP");
        code("--o.k", "GLOBAL:o 'k' COPYTWO GET UNARY0 1 BINARY1 PUT DROP");
        code("o[e]--", "GLOBAL:o GLOBAL:e COPYTWO GET UNARY0 UNDER 1 BINARY1 PUT DROP DROP");
        code("a\n++\nb", "GLOBAL:a DROP GLOBAL:b UNARY0 1 BINARY0 SETGLOBAL:b DROP");
    }

    private static void statements() {
        code("var a,b=1,a=2", "undefined SETGLOBAL:a DROP undefined SETGLOBAL:b DROP 1 SETGLOBAL:b DROP 2 SETGLOBAL:a DROP");
        code("if(a)b", "GLOBAL:a UNLESS4 GLOBAL:b DROP");
        code("if(a)b\nelse c", "GLOBAL:a UNLESS5 GLOBAL:b DROP JUMP7 GLOBAL:c DROP");
        code("throw a", "GLOBAL:a THROW");
        code("switch(a){}", "GLOBAL:a DROP JUMP3");
        code("switch(a){case 1:b;case 2:default:c;break;case 3:d}",
            "GLOBAL:a COPY 1 BINARY13 UNLESS7 DROP JUMP21 COPY 2 BINARY13 UNLESS13 DROP JUMP23 COPY 3 BINARY13 UNLESS19 DROP JUMP26 DROP JUMP23 "
            + "GLOBAL:b DROP GLOBAL:c DROP JUMP28 GLOBAL:d DROP");
    }

    private static void loops() {
        code("while(a)b", "GLOBAL:a UNLESS5 GLOBAL:b DROP JUMP0");
        code("do a\nwhile(b)", "GLOBAL:a DROP GLOBAL:b UNLESS5 JUMP0");
        code("for(;;)a", "GLOBAL:a DROP JUMP0");
        code("for(a;b;c)d", "GLOBAL:a DROP GLOBAL:b UNLESS9 GLOBAL:d DROP GLOBAL:c DROP JUMP2");
        code("for(var a=1,b;;c)d", "undefined SETGLOBAL:a DROP undefined SETGLOBAL:b DROP 1 SETGLOBAL:a DROP GLOBAL:d DROP GLOBAL:c DROP JUMP9");
        code("for(a in b)c", "GLOBAL:b NAMESOF NEXT8 SETGLOBAL:a DROP GLOBAL:c DROP JUMP2");
        code("for(var a in b);", "undefined SETGLOBAL:a DROP GLOBAL:b NAMESOF NEXT9 SETGLOBAL:a DROP JUMP5");
    }

    private static void jumps() {
        code("while(a){break;continue}", "GLOBAL:a UNLESS5 JUMP5 JUMP0 JUMP0");
        code("do{break;continue}while(a)", "JUMP5 JUMP2 GLOBAL:a UNLESS5 JUMP0");
        code("for(;;a){break;continue}", "JUMP5 JUMP2 GLOBAL:a DROP JUMP0");
        code("for(a in b){break;continue}", "GLOBAL:b NAMESOF NEXT9 SETGLOBAL:a DROP DROP JUMP9 JUMP2 JUMP2");
        code("for(a in b)switch(c){case 1:break;case 2:continue}",
            "GLOBAL:b NAMESOF NEXT23 SETGLOBAL:a DROP GLOBAL:c COPY 1 BINARY13 UNLESS12 DROP JUMP20 COPY 2 BINARY13 UNLESS18 DROP JUMP21 "
            + "DROP JUMP22 JUMP22 JUMP2 JUMP2");
    }

    private static void tries() {
        code("try{a}catch(x){b}", "undefined SETGLOBAL:x DROP TRY8 GLOBAL:a DROP LEAVE JUMP12 SETGLOBAL:x DROP GLOBAL:b DROP");
        code("try{a}finally{[]}", "TRY7 GLOBAL:a DROP LEAVE ARRAY0 DROP JUMP10 ARRAY1 DROP THROW");
        code("try{a}catch(x){b}finally{c}", "undefined SETGLOBAL:x DROP TRY17 TRY9 GLOBAL:a DROP LEAVE JUMP13 SETGLOBAL:x DROP GLOBAL:b DROP "
            + "LEAVE GLOBAL:c DROP JUMP20 GLOBAL:c DROP THROW");
        code("while(1)try{break}finally{a}", "1 UNLESS15 TRY11 LEAVE GLOBAL:a DROP JUMP15 LEAVE GLOBAL:a DROP JUMP14 "
            + "GLOBAL:a DROP THROW JUMP0");
        code("while(1)try{a}finally{break}", "1 UNLESS12 TRY8 GLOBAL:a DROP LEAVE JUMP12 JUMP11 DROP JUMP12 THROW JUMP0");
        code("for(x in a)try{}finally{continue}", "GLOBAL:a NAMESOF NEXT13 SETGLOBAL:x DROP TRY9 LEAVE JUMP2 JUMP12 DROP JUMP2 THROW JUMP2");
        code("for(x in a)try{}finally{break}",
            "GLOBAL:a NAMESOF NEXT15 SETGLOBAL:x DROP TRY10 LEAVE DROP JUMP15 JUMP14 DROP DROP JUMP15 THROW JUMP2");
    }

    private static void function(String body, String want) {
        Kit.check("code of a function " + body, Kit.code("function f(p){" + body + "}"), "FUNCTION1 SETGLOBAL:f DROP undefined RETURN " + want);
    }

    private static void functions() {
        function("", "undefined RETURN");
        function("return", "undefined RETURN undefined RETURN");
        function("return p", "LOAD0:p RETURN undefined RETURN");
        function("q=p;p=q;typeof p;typeof q", "LOAD0:p SETGLOBAL:q DROP GLOBAL:q STORE0:p DROP LOAD0:p UNARY4 DROP TYPEGLOBAL:q DROP undefined RETURN");
        function("q=1;var q", "1 STORE0:q DROP undefined RETURN");
        function("try{return 5}finally{p}", "TRY15 5 LEAVE LOAD0:p DROP RETURN LEAVE LOAD0:p DROP JUMP18 LOAD0:p DROP THROW undefined RETURN");
        function("try{return 5}catch(e){return 6}", "TRY11 5 LEAVE RETURN LEAVE JUMP15 STORE0:e DROP 6 RETURN undefined RETURN");
        function("try{}catch(e){return 6}finally{p}", "TRY20 TRY9 LEAVE JUMP16 STORE0:e DROP 6 LEAVE LOAD0:p DROP RETURN LEAVE LOAD0:p DROP "
            + "JUMP23 LOAD0:p DROP THROW undefined RETURN");
        Kit.check("functions in functions", Kit.code("function f(a){var g=function h(){return a+h+b;function k(){a=h}};g}var b"),
            "undefined SETGLOBAL:b DROP FUNCTION1 SETGLOBAL:f DROP undefined RETURN FUNCTION2 STORE0:g DROP LOAD0:g DROP undefined RETURN "
            + "FUNCTION3 STORE0:k DROP LOAD1:a LOAD0:h BINARY0 GLOBAL:b BINARY0 RETURN undefined RETURN LOAD1:h STORE2:a DROP undefined RETURN");
        Kit.check("sites in the order of places", Kit.code("x=function(){[]};[];for(;;[])({});"),
            "FUNCTION1 SETGLOBAL:x DROP ARRAY0 DROP OBJECT1 DROP ARRAY2 DROP JUMP5 undefined RETURN ARRAY3 DROP undefined RETURN");
    }
}
