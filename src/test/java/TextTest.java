/** Promises 1 to 7: the tape, reading, faults, counts, letters and instructions. */
public final class TextTest {
    private TextTest() {
    }

    public static void main(String[] args) {
        newObject();
        tape();
        tokens();
        places();
        targets();
        wanderers();
        depth();
        limits();
        afterReading();
        letters();
        instructions();
        Kit.end("TextTest");
    }

    private static String times(String s, int n) {
        return s.repeat(n);
    }

    private static void fault(String text, String want) {
        Kit.check("fault of " + text, Kit.fault(text), want);
    }

    // Promise 1
    private static void newObject() {
        ScriptTypes x = new ScriptTypes();
        for (int what = 0; what <= 11; what++) {
            Kit.check("count " + what + " of a new object", x.count(what), 0);
        }
        Kit.check("count 12 of a new object", x.count(12), -1);
        Kit.check("begin of a new object", Kit.outcome(() -> {
            x.begin();
            return 0;
        }), "IllegalStateException");
        Kit.check("solve of a new object", Kit.outcome(x::solve), "IllegalStateException");
        Kit.check("back of a new object", x.back(1), -1);
        Kit.check("letter of a new object", x.letter(0, 0), -1);
    }

    // Promises 2, 3 and 5
    private static void tape() {
        ScriptTypes x = new ScriptTypes();
        Kit.check("feed", x.feed(0x61626364, 0x65666768, 0x3b000000, -1, 0x20202020), 20);
        Kit.check("count 5", x.count(5), 20);
        Kit.check("back below 0", x.back(-1), -1);
        Kit.check("back too many", x.back(21), -1);
        Kit.check("count 5 then", x.count(5), 20);
        Kit.check("back 11", x.back(11), 9);
        Kit.check("back 0", x.back(0), 9);
        Kit.check("read", x.read(), 0);
        Kit.check("the highest byte of each int comes first", Kit.string(x, 31), "abcdefgh");
        Kit.check("the tape is empty then", x.count(5), 0);
        for (int i = 1; i <= 200; i++) {
            Kit.check("feed " + i, x.feed(0x20202020, 0x20202020, 0x20202020, 0x20202020, 0x20202020), 20 * i);
        }
        Kit.check("feed when it is full", x.feed(0, 0, 0, 0, 0), -1);
        Kit.check("nothing came", x.count(5), 4000);
        Kit.check("back 19", x.back(19), 3981);
        Kit.check("feed that finds no room", x.feed(0, 0, 0, 0, 0), -1);
        Kit.check("back 1", x.back(1), 3980);
        Kit.check("feed that finds room", x.feed(0x20202020, 0x20202020, 0x20202020, 0x20202020, 0x20202020), 4000);
        Kit.check("read of blanks", x.read(), 0);
        Kit.check("the empty script has two instructions", x.count(0), 2);
    }

    // Fault 1, and what is no fault
    private static void tokens() {
        fault("", "0");
        fault("@", "1:1");
        fault("a\n\n #", "1:3");
        fault("x='abc", "1:1");
        fault("x\n=\n'ab\nc'", "1:3");
        fault("x='a\tb'", "1:1");
        fault("x='a" + (char) 127 + "'", "1:1");
        fault("x='a" + (char) 200 + "'", "1:1");
        fault("x='a~ '", "0");
        fault("x='\\q'", "1:1");
        fault("x='\\", "1:1");
        fault("x='\\n\\t\\\\\\'\\\"'", "0");
        fault("x='" + times("\\n", 40) + "'", "0");
        fault("x='" + times("a", 41) + "'", "1:1");
        fault("x=\"'\"+'\"'", "0");
        fault(times("a", 16), "0");
        fault(times("a", 17), "1:1");
        fault("a.$_9", "0");
        fault("2147483647", "0");
        fault("2147483648", "1:1");
        fault("0000000001", "0");
        fault("00000000001", "1:1");
        fault("5a", "1:1");
        fault("5_", "1:1");
        fault("5.x", "0");
        fault("5 .x", "0");
        fault("/* a\n*/ b // c\n d", "0");
        fault("a /* b\n */ c", "0");
        fault("a /* b */ c", "2:1");
        fault("a\n\n/*\n\n", "1:3");
        fault("a /*/", "1:1");
        fault("a // b", "0");
        fault("\r", "1:1");
        fault("a>>>=b>>>c===d!==e<<=f", "3:1");
        fault("a>>>=b>>>c!==d", "0");
        fault("a+++b", "0");
        fault("a+ ++b", "0");
        fault("a++++b", "2:1");
    }

    // Fault 2, and where ; may be left out
    private static void places() {
        fault("a b", "2:1");
        fault("a\nb", "0");
        fault("a\n\n)", "2:3");
        fault("var", "2:1");
        fault("if(a)\n\n", "2:3");
        fault("if(a) else b", "2:1");
        fault("if(a)b else c", "2:1");
        fault("if(a)b;else c", "0");
        fault("if(a)b\nelse c", "0");
        fault("if(a){b}else{c}", "0");
        fault("while(a)}", "2:1");
        fault("{while(a)}", "2:1");
        fault("{a}", "0");
        fault("do x while(a)", "2:1");
        fault("do x\nwhile(a) b", "0");
        fault("do;while(a)b", "0");
        fault("do;while(a);b", "0");
        fault("for(;;)", "2:1");
        fault("for(;\n)a", "2:2");
        fault("for(a in b;;);", "2:1");
        fault("for(var a=1 in b);", "2:1");
        fault("for(var a,b in c);", "2:1");
        fault("for(a.b in c);", "2:1");
        fault("for((a) in c);", "2:1");
        fault("for(a=1 in c);", "2:1");
        fault("for(var a in b,c);", "0");
        fault("for(a in b in c);", "0");
        fault("for(a=(b in c);;);", "0");
        fault("for(a=b in c;;);", "2:1");
        fault("for(a=[b in c];;);", "0");
        fault("for(a=b[c in d]+{x:c in d};;);", "0");
        fault("for(a=b?c in d:e;;);", "2:1");
        fault("for(a=function(){b in c};;);", "0");
        fault("for(;a in b;c in d);", "0");
        fault("for(a instanceof b;;);", "0");
        fault("throw\na", "2:2");
        fault("throw", "2:1");
        fault("throw a\nb", "0");
        fault("function f(){return\na}", "0");
        fault("function f(){return}", "0");
        fault("function f(){return a b}", "2:1");
        fault("function f(){return", "2:1");
        fault("f(1,2,3,4,5,6,7,8)", "0");
        fault("f(1,2,3,4,5,6,7,8\n,9)", "2:2");
        fault("[" + times("1,", 15) + "1]", "0");
        fault("[" + times("1,", 15) + "1\n,1]", "2:2");
        fault("x={" + times("a:1,", 15) + "a:1}", "0");
        fault("x={" + times("a:1,", 15) + "a:1\n,a:1}", "2:2");
        fault("function f(a,b,c,d,e,g,h,i){}", "0");
        fault("function f(a,b,c,d,e,g,h,i\n,j){}", "2:2");
        fault("[1,]", "2:1");
        fault("x={a:1,}", "2:1");
        fault("f(1,)", "2:1");
        fault("function f(a,){}", "2:1");
        fault("try{}", "2:1");
        fault("try{}catch(e){}finally{}", "0");
        fault("try{}finally{}", "0");
        fault("try a;catch(e){}", "2:1");
        fault("catch(e){}", "2:1");
        fault("x=a.if.in.null;y={if:1,new:2,3:4,'x':5}", "0");
        fault("var if", "2:1");
        fault("a\n++b", "0");
        fault("a++\nb", "0");
        fault("(a\n++)", "2:2");
        fault("a\n(b)\n[c]\n.d\n+e\n?f\n:g\n,h", "0");
        fault("function(){}", "2:1");
        fault("function f(){}()", "2:1");
        fault("x=function(){}()", "0");
        fault("{a:1}", "2:1");
        fault("switch(a){x}", "2:1");
        fault("switch(a){case 1:x;default:case 2:{}}", "0");
        fault("if(a)function f(){}", "2:1");
        fault("{function f(){}}", "2:1");
        fault("function f(){function g(){}}", "0");
        fault("new -a", "2:1");
        fault("new new a", "0");
        fault("a.5", "2:1");
        fault("var a=1,b,c=2\nvar d", "0");
        fault("var a=1 b", "2:1");
        fault("a?b,c:d", "2:1");
        fault("a,b=c,d", "0");
        fault("case 1:", "2:1");
        fault("in", "2:1");
        fault("undefined=1", "3:1");
    }

    // Fault 3 where a target is wanted
    private static void targets() {
        fault("1=2", "3:1");
        fault("a\n=\n5\n=1", "3:4");
        fault("a.b=c[d]=1", "0");
        fault("++5;", "3:1");
        fault("++\n5\n;", "3:3");
        fault("++5 @", "1:1");
        fault("++5 )", "3:1");
        fault("delete x\n", "3:2");
        fault("delete a.b", "0");
        fault("delete a[b].c()", "3:1");
        fault("delete(a.b)", "3:1");
        fault("delete new a.b", "3:1");
        fault("delete new a().b", "0");
        fault("delete delete a.b", "3:1");
        fault("(a)++", "3:1");
        fault("(a)=1", "3:1");
        fault("(a.b)=1", "3:1");
        fault("(a).b=1", "0");
        fault("new a.b=1", "3:1");
        fault("new a().b=1", "0");
        fault("f()=1", "3:1");
        fault("f()++", "3:1");
        fault("f()\n++", "2:2");
        fault("++a++", "3:1");
        fault("++a\n++b", "0");
        fault("++ ++a", "3:1");
        fault("a+b=c", "3:1");
        fault("!a=c", "3:1");
        fault("a?b:c=d", "0");
        fault("a?b:c\n+d=e", "3:2");
        fault("this=1", "3:1");
        fault("typeof a--", "0");
        fault("- --a", "0");
    }

    // Fault 3 of parameters, default, break, continue and return
    private static void wanderers() {
        fault("function f(a,b,a){}", "3:1");
        fault("function f(a,\na){}", "3:2");
        fault("x=function a(a){}", "0");
        fault("switch(a){default:\ndefault:}", "3:2");
        fault("switch(a){default:switch(b){default:}}", "0");
        fault("break", "3:1");
        fault("if(a)\nbreak", "3:2");
        fault("continue", "3:1");
        fault("while(a){x=function(){break}}", "3:1");
        fault("while(a){x=function(){while(a)break};continue}", "0");
        fault("switch(a){case 1:break}", "0");
        fault("switch(a){case 1:continue}", "3:1");
        fault("while(a)switch(a){case 1:continue}", "0");
        fault("while(a);break", "3:1");
        fault("return", "3:1");
        fault("{return 1}", "3:1");
        fault("function f(){{return 1}}", "0");
        fault("function f(){}return", "3:1");
        fault("while(a)try{break}catch(e){continue}finally{break}", "0");
    }

    // Fault 5: a STATEMENT is open around each expression
    private static void depth() {
        fault(times("{", 20) + times("}", 20), "0");
        fault(times("{", 20) + "\n{", "5:2");
        fault(times("if(a)", 19) + ";", "0");
        fault(times("if(a)", 20) + "\n;", "5:2");
        fault(times("if(a);else ", 19) + ";", "0");
        fault(times("if(a);else ", 19) + "if(a)\n;", "5:2");
        fault(times("for(;;)", 19) + ";", "0");
        fault(times("for(;;)", 20) + ";", "5:1");
        fault(times("{", 20) + "\n)", "2:2");
        fault(times("{", 20) + "\nfunction", "2:2");
        fault(times("{", 20) + "\nbreak", "3:2");
        fault(times("while(a)", 20) + "\nbreak", "5:2");
        fault(times("(", 19) + "a" + times(")", 19), "0");
        fault(times("(", 20) + "a" + times(")", 20), "5:1");
        fault("x=" + times("(", 18) + "a" + times(")", 18), "0");
        fault("x=" + times("(", 18) + "\n(", "5:2");
        fault(times("f(", 19) + times(")", 19), "0");
        fault(times("f(", 20) + times(")", 20), "5:1");
        fault(times("a[", 19) + "1" + times("]", 19), "0");
        fault(times("a[", 20) + "1" + times("]", 20), "5:1");
        fault(times("[", 19) + times("]", 19), "0");
        fault(times("[", 20) + times("]", 20), "5:1");
        fault("x=" + times("{a:", 18) + "1" + times("}", 18), "0");
        fault("x=" + times("{a:", 19) + "1" + times("}", 19), "5:1");
        for (String sign : new String[] {"-", "+ ", "!", "~", "typeof ", "void "}) {
            fault(times(sign.equals("-") ? "- " : sign, 19) + "a", "0");
            fault(times(sign.equals("-") ? "- " : sign, 20) + "a", "5:1");
        }
        fault(times("!", 18) + "delete a.b", "0");
        fault(times("!", 19) + "delete a.b", "5:1");
        fault(times("!", 19) + "\n++a", "5:2");
        fault(times("!", 19) + "a++", "0");
        fault(times("new ", 19) + "a", "0");
        fault(times("new ", 20) + "a", "5:1");
        fault(times("new ", 18) + "a(1)", "0");
        fault(times("new ", 19) + "a\n(1)", "5:2");
        fault(times("a=", 19) + "1", "0");
        fault(times("a=", 20) + "\n1", "5:2");
        fault(times("a=", 20) + "\n)", "2:2");
        fault("var b=" + times("a=", 18) + "1", "0");
        fault("var b=" + times("a=", 19) + "\n1", "5:2");
        fault(times("a?a:", 19) + "a", "0");
        fault(times("a?a:", 19) + "a?\na:a", "5:2");
        fault(times("a?", 19) + "a" + times(":a", 19), "0");
        fault(times("a?", 20) + "\na" + times(":a", 20), "5:2");
        fault(times("a?a:", 19) + "a?\nb:c", "5:2");
        fault(times("function f(){", 20) + times("}", 20), "4:0");
        fault(times("function f(){", 20) + "\nfunction f(){}" + times("}", 20), "5:2");
        fault(times("x=function(){", 6) + times("}", 6), "0");
        fault(times("x=function(){", 6) + "x=\nfunction(){" + times("}", 7), "5:2");
        fault(times("try{", 20) + times("}finally{}", 20), "0");
        fault(times("try{", 6) + "a" + times("}finally{a}", 6), "0");
        fault(times("try{}finally{", 5) + "a" + times("}", 5), "0");
        fault(times("try{}finally{", 19) + "a" + times("}", 19), "4:0");
        fault("function f(){" + times("try{", 4) + "return" + times("}finally{return}", 4) + "}", "0");
        fault("function f(){" + times("try{", 18) + "return" + times("}finally{return}", 18) + "}", "4:0");
        fault(times("try{", 20) + "\n;" + times("}finally{}", 20), "5:2");
        fault(times("a(1)(2)[3].b", 30), "0");
        fault("x=" + times("a+b*c||", 20) + "d", "0");
    }

    private static String names(int n) {
        StringBuilder s = new StringBuilder();
        for (int i = 0; i < n; i++) {
            s.append("n").append(i).append(';');
        }
        return s.toString();
    }

    // Fault 4
    private static void limits() {
        fault(times("x=function(){};", 10), "0");
        fault(times("x=function(){};", 11), "4:0");
        fault(times("x=function(){};", 11) + ")", "2:1");
        fault(times("[];", 19), "0");
        fault(times("[];", 20), "4:0");
        fault(times("x={};new x;[];", 6) + "[]", "0");
        fault(times("x={};new x;[];", 6) + "[];[]", "4:0");
        fault("try{}finally{" + times("[];", 9) + "}", "0");
        fault("try{}finally{" + times("[];", 10) + "}", "4:0");
        fault(names(59), "0");
        fault(names(60), "4:0");
        fault(names(60) + "\nfunction f(a,a){}", "3:2");
        fault(names(58) + "'n0';x='" + times("z", 40) + "'", "4:0");
        fault("function f(a,b){var c,d,e,g,h,i,j,k;for(var l in a);try{}catch(m){}}", "0");
        fault("function f(a,b){var c,d,e,g,h,i,j,k;for(var l in a);try{}catch(m){};function n(){}}", "4:0");
        fault("function f(a,b){var c,d,e,g,h,i,j,k,a,b,c;for(var l in a);try{}catch(l){};function n(){}}", "0");
        fault("x=function f(a,b){var c,d,e,g,h,i,j,k;for(var l in a);try{}catch(m){}}", "4:0");
        fault("var a,b,c,d,e,f,g,h,i,j,k,l,m,n", "0");
        // (482 + 2) * 29 * 32 is 449,152
        fault(times("a;", 240), "0");
        fault(times("a;", 239) + "-a;", "4:0");
        fault(times("a;", 240) + "-a;", "4:0");
        fault(times("a;", 238) + "-a;", "0");
        fault(times("a;", 1900), "4:0");
        fault(times("a;", 1900) + "\n]", "2:2");
        fault(times("f(", 18) + times(")()", 1) + times(")", 17) + times("()", 1700), "4:0");
    }

    // Promise 4: what stands after reading
    private static void afterReading() {
        ScriptTypes x = Kit.script("a=1;b='q'");
        x.begin();
        x.run(3);
        x.solve();
        Kit.check("a fault is answered", Kit.read(x, "a\n="), 2 + 8 * 2);
        Kit.check("the tape is empty with a fault, too", x.count(5), 0);
        for (int what = 0; what <= 11; what++) {
            Kit.check("count " + what + " without a script", x.count(what), 0);
        }
        Kit.check("count 12 without a script", x.count(12), -1);
        Kit.check("letter without a script", x.letter(0, 0), -1);
        Kit.check("instruction without a script", x.instruction(0, 0), -1);
        Kit.check("frame without a script", x.frame(0, 0), -1);
        Kit.check("object without a script", x.object(0, 0), -1);
        Kit.check("height without a script", x.height(0), -1);
        Kit.check("result without a script", x.result(0, 0, 0), 0);
        Kit.check("solve without a script", Kit.outcome(x::solve), "IllegalStateException");
        Kit.check("run without a script", Kit.outcome(() -> x.run(1)), "IllegalStateException");
        Kit.check("read again", Kit.read(x, "c"), 0);
        Kit.check("names are new ones", x.count(2) + Kit.string(x, 31), "32c");
        Kit.check("the machine has not begun", x.count(6), 0);
        Kit.check("nothing is solved", x.count(12), -1);
        ScriptTypes y = Kit.script("function f(){}x=[{}]");
        Kit.check("counts", y.count(0) + " " + y.count(1) + " " + y.count(2) + " " + y.count(3) + " " + y.count(4), "15 2 33 39 2");
        Kit.check("count of another what", y.count(13) + " " + y.count(-1), "-1 -1");
    }

    // Promise 6
    private static void letters() {
        ScriptTypes x = Kit.script("a.if={'b':'\\n\\t\\\\\\'',007:7};var a,c;x='if'+\"\"");
        StringBuilder names = new StringBuilder();
        for (int s = 0; s < x.count(2); s++) {
            names.append(Kit.string(x, s)).append('|');
        }
        Kit.check("names", names, "length|prototype|constructor|message|name|print|Object|Array|String|isNaN|Error|TypeError|"
            + "ReferenceError|RangeError|push|pop|call|hasOwnProperty|charAt|undefined|object|boolean|number|string|function|null|true|"
            + "false|NaN|[object]||a|if|b|\n\t\\'|7|c|x|");
        Kit.check("letter behind the end", x.letter(0, 6), -1);
        Kit.check("letter of the empty one", x.letter(30, 0), -1);
        Kit.check("letter below 0", x.letter(0, -1) + " " + x.letter(-1, 0), "-1 -1");
        Kit.check("letter of no string", x.letter(x.count(2), 0), -1);
        ScriptTypes y = Kit.run("a='x';a+a;a+7;a+a+a");
        Kit.check("strings that the machine made", Kit.string(y, y.count(2)) + " " + Kit.string(y, y.count(2) + 1) + " " + Kit.string(y, y.count(2) + 2)
            + " " + y.count(9), "xx x7 xxx " + (y.count(2) + 3));
    }

    // Promise 7
    private static void instructions() {
        ScriptTypes x = Kit.script("function f(a){return a}");
        Kit.check("code", Kit.code(x), "FUNCTION1 SETGLOBAL:f DROP undefined RETURN LOAD0:a RETURN undefined RETURN");
        Kit.check("functions", x.instruction(4, 3) + " " + x.instruction(5, 3), "0 1");
        Kit.check("what", x.instruction(5, 0) + " " + x.instruction(5, 1) + " " + x.instruction(5, 2), "1 0 32");
        Kit.check("another what", x.instruction(5, 4) + " " + x.instruction(5, -1), "-1 -1");
        Kit.check("no instruction", x.instruction(-1, 0) + " " + x.instruction(9, 0), "-1 -1");
    }
}
