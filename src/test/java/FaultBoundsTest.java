import java.util.ArrayList;
import java.util.List;

/** Section 1 of the terms, TARGETS and FAULTS: which fault, at which token, of which line; and the bounds of 4 and 5. */
public final class FaultBoundsTest {
    private static final String[] SETS = {"=", "+=", "-=", "*=", "/=", "%=", "<<=", ">>=", ">>>=", "&=", "|=", "^="};
    private static final String[] UNIT_SIGNS = {"delete ", "void ", "typeof ", "++ ", "-- ", "+ ", "- ", "~ ", "! "};

    private FaultBoundsTest() {
    }

    public static void main(String[] args) {
        targets();
        targetPlaces();
        firstToken();
        leastNumber();
        unitAhead();
        parametersAndDefaults();
        jumps();
        openOnes();
        openInOneAnother();
        notCounted();
        lines();
        functions();
        sites();
        names();
        variables();
        product();
        fourIsLast();
        Kit.end("FaultBoundsTest");
    }

    private static void fault(String text, String want) {
        Kit.check("fault of " + text, Kit.fault(text), want);
    }

    private static void all(String want, String... texts) {
        for (String text : texts) {
            fault(text, want);
        }
    }

    private static String times(String s, int n) {
        return s.repeat(n);
    }

    private static void targets() {
        Kit.sentence("TARGETS are names (without brackets around) and LEFTs that end with . or [ ] (not a NEW's own): what stands ahead of =, += and so on, and at ++ and --");
        String[] good = {"a", "a.b", "a[b]", "a.b.c", "a().b", "a()[b]", "(a).b", "(a.b)[c]", "this.a", "5 .a", "'a'[0]", "[].a", "new a().b", "new a()[b]", "new a.b().c", "(new a).b",
            "(function(){}).a", "({}).a", "null.a", "new new a()().b"};
        String[] bad = {"5", "'a'", "true", "false", "null", "undefined", "NaN", "this", "(a)", "((a))", "(a.b)", "(a[b])", "a()", "a.b()", "a[b]()", "new a", "new a()", "new a.b", "new a[b]",
            "new a.b()", "[]", "(function(){})", "({})", "new new a().b", "new new a.b", "(a,b)", "new a()()", "new (a.b)"};
        for (String set : SETS) {
            for (String target : good) {
                fault(target + set + "c", "0");
            }
            for (String other : bad) {
                fault(other + "\n" + set + "c", "3:2");
            }
        }
        for (String sign : new String[] {"++", "--"}) {
            for (String target : good) {
                fault(target + sign, "0");
                fault(sign + target, "0");
                fault(sign + target + "\n;", "0");
            }
            for (String other : bad) {
                fault(other + sign, "3:1");
                fault(sign + other, "3:1");
                fault(sign + other + "\n;", "3:2");
                fault(sign + "\n" + other + "\n\n+a", "3:4");
            }
        }
        Kit.sentence("delete wants one of the second sort");
        for (String target : good) {
            fault("delete " + target, target.equals("a") ? "3:1" : "0");
            fault("delete " + target + "\n;", target.equals("a") ? "3:2" : "0");
        }
        for (String other : bad) {
            fault("delete " + other, "3:1");
            fault("delete " + other + "\n;", "3:2");
        }
    }

    private static void targetPlaces() {
        Kit.sentence("3 no target where one is wanted (at the sign = .., ++, -- behind it; at the token behind the unit that ++, -- or delete stands ahead of)");
        all("3:2", "5\n=1", "a+b\n=1", "a?b:c+d\n=1", "-a\n=1", "a++\n=1", "++a\n=1", "typeof a\n+=1", "delete a.b\n=1", "a||b\n=c", "a in b\n=c", "a=b+c\n=d", "(a)\n=1", "f(5\n=1)", "[5\n=1]",
            "x={a:5\n=1}", "if(5\n=1);", "for(5\n=1;;);", "a?5\n=1:b", "++5\n", "++ ++a\n", "++a++\n", "delete a\n", "delete delete a.b\n", "delete ++a\n", "delete a.b++\n", "-- -a\n",
            "++typeof a\n", "delete!a\n", "++delete a.b\n", "(++5\n)", "[++5\n]", "f(--5\n)", "a[++5\n]", "x={a:++5\n}", "- ++5\n", "++5\n*a", "++a()\n", "-- --a\n;");
        all("3:1", "5++\n", "5=\n", "a++=b\n", "(a)--\n", "delete a;\n", "++a++;\n", "var a=5=\n", "a=5+=b");
        fault("++\n5\n\n\n", "3:5");
        fault("++a.b", "0");
        fault("- ++a", "0");
        fault("delete a.b\n", "0");
        fault("delete a.b++\n", "3:2");
        fault("typeof delete a.b", "0");
    }

    private static void firstToken() {
        Kit.sentence("FAULTS: the first one, token by token");
        all("2:1", "a b\n@", "a )\n5=1", "var if\n@", "a b c\n@");
        all("1:1", "@\na b", "'\n)", "5a )", "2147483648=1\n)");
        all("3:1", "5=1\n@", "5=)", "5++ @", "break @", "return )", "function f(a,a @", "switch(a){default:default @");
        fault("a\n)\n@\n5=1", "2:2");
        fault("a\n5=1\n)\n@", "3:2");
        fault(times("{", 20) + "\n{\n@", "5:2");
        fault(times("{", 20) + "\n@\n{", "1:2");
        fault("5=1\n" + times("{", 21), "3:1");
        fault(times("(", 20) + "\n@", "5:1");
        fault("\n" + times("(", 19) + "\n(\n)", "5:3");
    }

    private static void leastNumber() {
        Kit.sentence("(of one token the least number, but 3 for the unit ahead of it ahead of 2)");
        fault("a @", "1:1");
        fault("++5 @", "1:1");
        fault("delete a 5a", "1:1");
        fault(times("(", 19) + "\n@", "1:2");
        fault(times("{", 20) + "\n5a", "1:2");
        all("2:2", "a\n) ", times("{", 20) + "\n)", times("{", 20) + "\nelse", times("{", 20) + "\nfunction", times("{", 20) + "\ncase", times("(", 19) + "\n]", times("a=", 19) + "\n)",
            times("! ", 19) + "\n*", times("a?", 19) + "\n:", "f(" + times("(", 18) + "\n,");
        all("2:1", "a break", "a continue", "a return", "x=break", "(break)", "var break", "a default", "{a return)}");
        fault(times("{", 20) + "\nbreak", "3:2");
        fault(times("{", 20) + "\ncontinue", "3:2");
        fault(times("{", 20) + "\nreturn", "3:2");
        fault(times("while(a)", 20) + "\nbreak", "5:2");
        fault(times("while(a)", 20) + "\ncontinue", "5:2");
        fault("function f(){" + times("{", 19) + "\nreturn", "5:2");
        fault(times("(", 19) + "5\n=1", "3:2");
        fault("a" + times("=a", 18) + "=5\n=1", "3:2");
        fault(times("{", 18) + "(5)\n=1", "3:2");
    }

    private static void unitAhead() {
        Kit.sentence("3 for the unit ahead of it ahead of 2");
        for (String sign : new String[] {"++", "--", "delete "}) {
            all("3:1", sign + "5 )", sign + "5 a", sign + "5 ]", sign + "5 function", sign + "5 else", sign + "5 break", sign + "5 5", sign + "5 'a'", sign + "(a) }", sign + "5 :", sign + "5",
                sign + "5 !", sign + "a() case", sign + "5 catch", sign + "5 =1", sign + "5 ,", sign + "5 ?a:b", sign + "5 in a", sign + "5 ++", sign + "5--");
            all("2:1", sign + "a.b )", sign + "a.b c", sign + "a.b ]", sign + "a.b function", sign + "a.b else", sign + "a.b break");
            all("1:1", sign + "5 @", sign + "5 5a", sign + "5 '");
            all("5:1", sign + "5" + times("[", 21), sign + "5" + times("(", 21));
        }
        fault("delete a b", "3:1");
        fault("++a b", "2:1");
        fault("++5\n\n)", "3:3");
    }

    private static void parametersAndDefaults() {
        Kit.sentence("3 a parameter that was there (at it), a second default");
        fault("function f(a,\na\n){}", "3:2");
        fault("function f(a,b,\nb", "3:2");
        fault("x=function(a,\na", "3:2");
        for (String two : new String[] {"ab,ab", "abc,x,abc", "longnamed,longnamed", "$,_,$", "a1,a2,a1", "aa,a,aa"}) {
            fault("function f(" + two + "){}", "3:1");
            fault("x=function(" + two + "){}", "3:1");
        }
        for (String two : new String[] {"ab,ac", "ab,bb", "ab,a", "a,ab", "abc,abd", "abc,xbc", "abc,axc", "ab,ba", "a,A", "a1,a2", "f,x", "aa,a"}) {
            fault("function f(" + two + "){}", "0");
            fault("x=function(" + two + "){}", "0");
        }
        fault("x=function a(a){}", "0");
        fault("function f(a){x=function(a){}}", "0");
        fault("function f(a){var a}", "0");
        fault("function f(a){function a(){}}", "0");
        fault("function f(a){try{}catch(a){}}", "0");
        fault("switch(a){default:\ndefault", "3:2");
        fault("switch(a){default:case 1:\ndefault:}", "3:2");
        fault("switch(a){default:}switch(a){default:}", "0");
        fault("switch(a){default:switch(a){default:}case 1:\ndefault:}", "3:2");
        fault("switch(a){default:b=function(){switch(c){default:}}}", "0");
    }

    private static void jumps() {
        Kit.sentence("3 break, continue, return where none can be (break outside of loops and switches, continue outside of loops, within the function; return outside of functions)");
        String[] loops = {"while(a)#", "do # while(a)", "for(;;)#", "for(a;b;c)#", "for(a in b)#", "for(var a in b)#", "while(a){#}", "while(a)if(b)#\nelse;", "while(a)if(b);else #",
            "while(a)try{#}finally{}", "while(a)try{}catch(e){#}", "while(a)try{}finally{#}", "while(a)switch(b){case 1:#}", "for(;;)switch(b){default:#}", "function f(){while(a)#}",
            "while(a){{{#}}}", "while(a)while(b);while(c)#", "while(a)switch(b){case 1:while(c)#}", "while(a){while(b);#}", "while(a){switch(b){}#}"};
        for (String loop : loops) {
            fault(loop.replace("#", "break;"), "0");
            fault(loop.replace("#", "continue;"), "0");
            fault(loop.replace("#", "return;"), loop.startsWith("function") ? "0" : "3:1");
            fault("function f(){" + loop.replace("#", "return;") + "}", "0");
        }
        String[] switches = {"switch(a){case 1:#}", "switch(a){default:#}", "switch(a){case 1:{#}}", "switch(a){case 1:if(b)#}", "function f(){switch(a){case 1:#}}",
            "switch(a){case 1:try{}finally{#}}"};
        for (String text : switches) {
            fault(text.replace("#", "break;"), "0");
            fault(text.replace("#", "continue;"), "3:1");
            fault("while(a)" + text.replace("#", "continue;"), text.startsWith("function") ? "2:1" : "0");
        }
        all("0", "switch(a){case 1:b=function(){};break}", "while(a){b=function(){};continue}", "while(a){b=function(){while(c);};break}", "switch(a){case 1:b=function(){switch(c){}};break}",
            "switch(a){case 1:switch(b){case 2:}break}", "while(a){switch(b){case 1:}continue}", "switch(a){case 1:while(b);break}", "for(;;){function_=1;break}");
        all("3:1", "switch(a){case 1:}break", "switch(a){default:}break", "switch(a){case 1:switch(b){case 2:}}break", "while(a){}break", "function f(){switch(a){case 1:}break}",
            "switch(a){case 1:b=function(){switch(c){case 2:}break}}", "switch(a){case 1:while(b);continue}", "while(a)switch(b){case 1:}continue", "x=function(){while(a);};break",
            "x=function(){switch(a){case 1:}};break", "function f(){return}return", "x=function(){function g(){}};return");
        String[] nowhere = {"#", "{#}", "if(a)#", "if(a);else #", "try{#}finally{}", "try{}catch(e){#}", "try{}finally{#}", "while(a);#", "do;while(a)#", "for(;;);#", "for(a in b);#",
            "switch(a){}#", "while(a){b=function(){#}}", "for(a in b)c=function(){#}", "switch(a){case 1:b=function(){#}}", "while(a)b=function(){if(c)#}", "while(function(){#});",
            "for(;;function(){#});", "do;while(function(){#})", "while(a)b=function(){while(c);#}", "function f(){#}"};
        for (String text : nowhere) {
            fault(text.replace("#", "break;"), "3:1");
            fault(text.replace("#", "continue;"), "3:1");
            fault(text.replace("#", "\nbreak"), "3:2");
        }
        all("3:1", "return", "return a", "{return}", "if(a)return", "while(a)return", "function f(){}return", "x=function(){};return", "try{return}finally{}", "switch(a){case 1:return}",
            "try{}catch(e){return}", "for(;;)return");
        all("0", "function f(){return}", "x=function(){return}", "function f(){{return}}", "function f(){if(a)return}", "function f(){x=function(){};return}", "function f(){function g(){}return}",
            "function f(){try{return}finally{return}}", "function f(){try{}catch(e){return}}", "function f(){switch(a){case 1:return}}");
        fault("function f(){function g(){return}}\nreturn", "3:2");
    }

    // Each with how many are open ahead of the one that # stands ahead of, the statements around among them.
    private static List<String> openings() {
        List<String> all = new ArrayList<>();
        for (String statement : new String[] {"{}", "var a;", ";", "a;", "if(a){}", "while(a){}", "do{}while(a);", "for(;;){}", "for(a in b){}", "throw a;", "try{}finally{}",
            "switch(a){}"}) {
            boolean leaf = !statement.matches("(if|while|do|for).*");
            if (leaf) {
                all.add("0#" + statement);
            }
            for (String head : new String[] {"{", "if(a)", "while(a)", "do ", "for(;;)", "for(a in b)", "try{", "try{}catch(e){", "try{}finally{", "switch(a){case 1:",
                "switch(a){default:"}) {
                String tail = head.equals("try{") ? "}finally{}" : head.endsWith("{") || head.endsWith(":") ? "}" : head.equals("do ") ? "while(a)" : "";
                if (leaf) {
                    all.add("1" + head + "#" + statement + tail);
                }
            }
        }
        for (String sign : UNIT_SIGNS) {
            all.add("1#" + sign + "a.b;");
            all.add("1b*#" + sign + "a.b;");
        }
        all.addAll(List.of("1#(a);", "1#[a];", "1#[];", "2!#{};", "2!#{a:b};", "1a#(b);", "1a#();", "1a.b#();", "1a#[b];", "1a.b#[c]=d;", "1#new a;", "2new a#(b);", "2new a#();",
            "2new #new a;", "2new a#[b];", "2!#function(){};", "3!function(){#;};", "2[#(a)];", "2[a,#(b)];", "2a(#(b));", "2a[#(b)];", "2(#(a));", "3!{a:#(b)};", "2new #(a);", "2var a=b,c=#(d);",
            "1var a=#b;", "1var a,b=#c;", "1a?#b:c;", "2if(a);else #!b;", "2if(a);else{#a;}", "3a?!#!b:c;", "2a?b:#!c;", "2a?#!b:c;"));
        for (String set : SETS) {
            all.add("1a" + set + "#b;");
            all.add("1a.b" + set + "#c;");
            all.add("2a" + set + "#!b;");
        }
        all.add("2a=#function(){};");
        return all;
    }

    private static void openOnes() {
        Kit.sentence("5 a STATEMENT, function, ( [ { of an expression (of a call and of o[e], too), unit with a sign ahead, NEW, or A behind a sign of assignment (var's = too) or behind the ? "
            + "or : of a choice, the 21st of these that are open in one another (at its first token)");
        for (String one : openings()) {
            int blocks = 20 - (one.charAt(0) - '0') - 1;
            String text = one.substring(1).replace("#", "\n");
            fault(times("{", blocks) + text + times("}", blocks), "0");
            fault(times("{", blocks + 1) + text + times("}", blocks + 1), "5:2");
            fault(times("if(a)", blocks) + text, "0");
            fault(times("if(a)", blocks + 1) + text, "5:2");
        }
        fault("function f(){" + times("{", 17) + "!\n!a" + times("}", 18), "5:2");
        fault("function f(){" + times("{", 16) + "!\n!a" + times("}", 17), "0");
        fault("function f(){" + times("{", 19) + times("}", 20), "0");
        fault("function f(){" + times("{", 19) + "\n;" + times("}", 20), "5:2");
        fault("function f(){function g(){" + times("{", 18) + "}}" + times("}", 18), "0");
        fault("function f(){function g(){" + times("{", 18) + "\n{}}}" + times("}", 18), "5:2");
        fault("function f(){" + times("{", 18) + "return a" + times("}", 19), "0");
        fault("function f(){" + times("{", 18) + "return\na" + times("}", 19), "0");
        fault("function f(){" + times("{", 17) + "return !\n!a" + times("}", 18), "5:2");
        fault("function f(){" + times("{", 16) + "return !\n!a" + times("}", 17), "0");
        fault(times("while(a)", 19) + "break", "0");
        fault(times("while(a)", 20) + "\ncontinue", "5:2");
        fault(times("a=", 19) + "b", "0");
        fault(times("a=", 20) + "\nb", "5:2");
        fault("var c=" + times("a=", 18) + "b", "0");
        fault("var c=" + times("a=", 19) + "\nb", "5:2");
        fault(times("(", 19) + "a" + times(")", 19), "0");
        fault(times("(", 19) + "\n(a)" + times(")", 19), "5:2");
        fault(times("new ", 19) + "a", "0");
        fault(times("new ", 19) + "\nnew a", "5:2");
        fault(times("a(", 19) + times(")", 19), "0");
        fault(times("a(", 19) + "a\n(" + times(")", 20), "5:2");
        fault(times("a[", 19) + "1" + times("]", 19), "0");
        fault(times("a[", 19) + "a\n[1" + times("]", 20), "5:2");
        fault(times("[", 19) + times("]", 19), "0");
        fault(times("[", 19) + "\n[" + times("]", 20), "5:2");
        fault("!" + times("{a:", 18) + "1" + times("}", 18), "0");
        fault("!" + times("{a:", 18) + "\n{" + times("}", 19), "5:2");
        fault(times("a?", 19) + "b" + times(":c", 19), "0");
        fault(times("a?", 20) + "\nb" + times(":c", 20), "5:2");
        fault(times("a?b:", 19) + "c", "0");
        fault(times("a?b:", 19) + "a?\nb:c", "5:2");
    }

    private static void openInOneAnother() {
        Kit.sentence("the 21st of these that are open in one another");
        all("0", times("a;", 100), times("(a)+", 40) + "a", times("(a),", 40) + "a", times("-a+", 30) + "a", times("a=1,", 40) + "b", times("[];", 19), "a" + times("(1)", 40),
            "a" + times("[1]", 40), times("{}", 30), times("if(a);", 30), "var a=1" + times(",a=1", 30), "f(" + times("!1,", 7) + "!1)", times("a?b:c;", 25), times("!a&&", 30) + "a",
            times("while(a);", 30), "[" + times("(1),", 15) + "(1)]", times("new a;", 19), times("a?b:c,", 25) + "a", "!" + "{a:(1),b:(1),c:(1)}", times("new a(1)+", 18) + "1");
        all("0", times("{", 18) + "(a)+(a);(a);[];[];a(1)(2)(3);-a+-a;a=1,a=2;a?b:c,d?e:f" + times("}", 18));
        fault("a?b:c" + times(",a?b:c", 20), "0");
        fault(times("function f(){}", 10) + times("{", 20) + times("}", 20), "0");
        fault(times("function f(){}", 10) + times("{", 20) + "\n;" + times("}", 20), "5:2");
        fault(times("x=function(){};", 10) + times("{", 20) + times("}", 20), "0");
        fault(times("!function(){};", 10) + times("{", 18) + "(a)" + times("}", 18), "0");
        fault(times("{", 18) + times("(a);", 30) + times("}", 18), "0");
        fault(times("{", 18) + times("-a;", 30) + times("}", 18), "0");
        fault(times("{", 18) + times("a=1;", 30) + times("}", 18), "0");
        fault(times("{", 18) + times("a?1:2;", 20) + times("}", 18), "0");
        fault(times("{", 18) + times("new a;", 18) + times("}", 18), "0");
        fault(times("{", 18) + times("[];", 18) + times("}", 18), "0");
        fault(times("{", 18) + times("a();a[1];", 18) + times("}", 18), "0");
        fault(times("{", 19) + times("if(a);while(a);;", 18) + times("}", 19), "5:1");
        fault(times("{", 18) + times("if(a);while(a);;", 18) + times("}", 18), "0");
        fault(times("{", 18) + times("try{;}finally{;}", 8) + times("}", 18), "0");
        fault(times("{", 18) + "try{}catch(e){;}switch(a){case 1:;}do;while(a)for(;;);" + times("}", 18), "0");
        fault(times("{", 17) + "a?b=\n1:c" + times("}", 17), "0");
        fault(times("{", 18) + "a?b=\n1:c" + times("}", 18), "5:2");
        fault(times("{", 17) + "a?b:c=\n1" + times("}", 17), "0");
        fault(times("{", 18) + "a?b:c=\n1" + times("}", 18), "5:2");
        fault(times("{", 16) + "new a(\n!b)" + times("}", 16), "0");
        fault(times("{", 17) + "new a(\n!b)" + times("}", 17), "5:2");
    }

    private static void notCounted() {
        Kit.sentence("( [ { of an expression: not those of statements, of parameters, of a function's or a try's parts");
        all("0", times("if(a)", 19) + "a", times("while(a)", 19) + "a", times("for(a;b;c)", 19) + "a", times("switch(a){case 1:", 19) + "a" + times("}", 19),
            times("try{", 19) + "a" + times("}catch(e){}", 19), times("for(a in b)", 19) + "a", times("if(!a)", 19) + "a", times("do ", 19) + "a" + times("\nwhile(b)", 19),
            times("try{}catch(e){", 19) + "a" + times("}", 19), times("for(!a;!b;!c)", 19) + "a", times("if(a);else ", 19) + "a");
        fault(times("{", 18) + "if((a));" + times("}", 18), "0");
        fault(times("{", 18) + "if((\n(a)));" + times("}", 18), "5:2");
        fault(times("{", 18) + "while(!\n!a);" + times("}", 18), "5:2");
        fault(times("{", 18) + "while(!a);" + times("}", 18), "0");
        fault(times("{", 18) + "for(!a;!b;!c);" + times("}", 18), "0");
        fault(times("{", 18) + "for(a;!\n!b;);" + times("}", 18), "5:2");
        fault(times("{", 18) + "for(a;b;!\n!c);" + times("}", 18), "5:2");
        fault(times("{", 18) + "switch(!a){case !b:}" + times("}", 18), "0");
        fault(times("{", 18) + "switch(a){case !\n!b:}" + times("}", 18), "5:2");
        fault(times("{", 18) + "switch(!\n!a){}" + times("}", 18), "5:2");
        fault(times("{", 18) + "do;while(!\n!a)" + times("}", 18), "5:2");
        fault(times("{", 18) + "throw !\n!a" + times("}", 18), "5:2");
        fault(times("{", 18) + "throw !a" + times("}", 18), "0");
        fault(times("{", 18) + "for(a in !\n!b);" + times("}", 18), "5:2");
        fault(times("{", 18) + "for(a in !b);" + times("}", 18), "0");
    }

    private static void lines() {
        Kit.sentence("Each with the line of its token (at which it begins; of the end: one more than there are 10s).");
        fault("\n\n@", "1:3");
        fault("\n\n)", "2:3");
        fault("\n\nbreak", "3:3");
        fault(times("{", 20) + "\n\n;", "5:3");
        fault("(", "2:1");
        fault("(\n", "2:2");
        fault("(\n\n\n", "2:4");
        fault("(//", "2:1");
        fault("(//\n", "2:2");
        fault("(/*\n\n*/", "2:3");
        fault("x='\n'", "1:1");
        fault("/*\n\n", "1:1");
        fault("++5\n\n", "3:3");
        fault("a\n'\n", "1:2");
        fault("(a\n \n b)", "2:3");
        fault("(" + times("\n", 3999), "2:4000");
        fault("++5" + times("\n", 3997), "3:3998");
    }

    private static void functions() {
        Kit.sentence("with line 0: 4, if there are more than 10 functions beside the script");
        fault(times("function f(){}", 10), "0");
        fault(times("function f(){}", 11), "4:0");
        fault(times("x=function(){};", 10), "0");
        fault(times("x=function(){};", 11), "4:0");
        fault(times("function f(){", 10) + times("}", 10), "0");
        fault(times("function f(){", 11) + times("}", 11), "4:0");
        fault(times("function f(){x=function(){}}", 5), "0");
        fault(times("function f(){x=function(){}}", 5) + "!function(){}", "4:0");
        fault(times("function f(){}", 9) + "try{}finally{!function(){}}", "0");
        fault(times("function f(){}", 9) + "try{}finally{!function(){};!function(){}}", "4:0");
        Kit.check("10 functions and the script", Kit.script(times("function f(){}", 10)).count(1), 11);
    }

    private static void sites() {
        Kit.sentence("4, if there are more than 19 SITES");
        fault(times("[];", 19), "0");
        fault(times("[];", 20), "4:0");
        fault(times("!{};", 19), "0");
        fault(times("!{};", 20), "4:0");
        fault(times("new a;", 19), "0");
        fault(times("new a;", 20), "4:0");
        fault(times("!{};[];new a;", 6) + "[]", "0");
        fault(times("!{};[];new a;", 6) + "[];!{}", "4:0");
        fault("function f(){" + times("[];", 10) + "}" + times("[];", 9), "0");
        fault("function f(){" + times("[];", 10) + "}" + times("[];", 10), "4:0");
        fault("try{}finally{" + times("[];", 9) + "}[]", "0");
        fault("try{}finally{" + times("[];", 9) + "}[];[]", "4:0");
        fault("try{}finally{" + times("[];", 10) + "}", "4:0");
        fault("while(a)try{break}finally{" + times("[];", 6) + "}[]", "0");
        fault("while(a)try{break}finally{" + times("[];", 6) + "}[];[]", "4:0");
        fault("try{}finally{x=function(){" + times("[];", 19) + "}}", "0");
        fault("try{}finally{x=function(){" + times("[];", 20) + "}}", "4:0");
        Kit.check("19 sites", Kit.script(times("[];", 19)).count(4), 19);
        fault(times("a.b;a();print.c;", 6), "0");
    }

    private static String names(String ahead, int n, String behind) {
        StringBuilder s = new StringBuilder();
        for (int i = 0; i < n; i++) {
            s.append(ahead).append(i).append(behind);
        }
        return s.toString();
    }

    private static void names() {
        Kit.sentence("4, if there are more than 90 NAMES");
        fault(names("n", 59, ";"), "0");
        fault(names("n", 60, ";"), "4:0");
        fault(names("'n", 59, "';"), "0");
        fault(names("'n", 60, "';"), "4:0");
        fault("length" + names(".n", 59, ""), "0");
        fault("length" + names(".n", 60, ""), "4:0");
        fault(names("!{1", 15, ":1};"), "0");
        fault(names("n", 59, ";") + "n0;'n1';length.n2", "0");
        fault(names("n", 59, ";") + "length.length;print;'';'[object]';name.prototype", "0");
        fault(names("n", 58, ";") + "!{7:1}", "0");
        fault(names("n", 59, ";") + "!{7:1}", "4:0");
        fault(names("n", 59, ";") + "print.if", "4:0");
        fault(names("n", 59, ";") + "print.null", "0");
        fault(names("n", 59, ";") + "7", "0");
        fault(names("n", 58, ";") + "function f(){}", "0");
        fault(names("n", 58, ";") + "function f(a){}", "4:0");
        fault(names("n", 58, ";") + "try{}catch(e){}", "0");
        fault(names("n", 59, ";") + "try{}catch(e){}", "4:0");
        fault(names("n", 59, ";") + "var v", "4:0");
        fault(names("n", 59, ";") + "var n5", "0");
        fault(names("n", 59, ";") + "!function f(){}", "4:0");
        Kit.check("90 names", Kit.script(names("n", 59, ";")).count(2), 90);
        fault(times("'n';", 100), "0");
    }

    private static void variables() {
        Kit.sentence("4, if there are more than 12 VARIABLES of one function but the script (each name once)");
        String twelve = "a,b,c,d,e,f,g,h,i,j,k,l";
        fault("function z(){var " + twelve + "}", "0");
        fault("function z(){var " + twelve + ",m}", "4:0");
        fault("function z(){var " + twelve + "," + twelve + "}", "0");
        fault("function z(a,b,c,d,e,f,g,h){var i,j,k,l}", "0");
        fault("function z(a,b,c,d,e,f,g,h){var i,j,k,l,m}", "4:0");
        fault("function z(a,b,c,d,e,f,g,h){var " + twelve + "}", "0");
        fault("!function z(){var b,c,d,e,f,g,h,i,j,k,l}", "0");
        fault("!function z(){var " + twelve + "}", "4:0");
        fault("!function a(){var " + twelve + "}", "0");
        fault("!function(){var " + twelve + "}", "0");
        fault("!function(){var " + twelve + ",m}", "4:0");
        fault("!function a(a){var " + twelve + "}", "0");
        fault("function z(){var a,b,c,d,e,f,g,h,i,j,k;for(var l in a);}", "0");
        fault("function z(){var " + twelve + ";for(var m in a);}", "4:0");
        fault("function z(){var " + twelve + ";for(m in a);}", "0");
        fault("function z(){var a,b,c,d,e,f,g,h,i,j,k;try{}catch(l){}}", "0");
        fault("function z(){var " + twelve + ";try{}catch(m){}}", "4:0");
        fault("function z(){var " + twelve + ";try{}catch(a){}}", "0");
        fault("function z(){var a,b,c,d,e,f,g,h,i,j,k;function l(){}}", "0");
        fault("function z(){var " + twelve + ";function m(){}}", "4:0");
        fault("function z(){var " + twelve + ";function a(){}}", "0");
        fault("function z(){var " + twelve + ";x=function m(){}}", "0");
        fault("function z(){var " + twelve + ";for(var m=1;;);}", "4:0");
        fault("function z(){var " + twelve + ";m=1;n}", "0");
        fault("function z(){var a;function y(){var " + twelve + "}}", "0");
        fault("function z(){function y(){var " + twelve + ",m}}", "4:0");
        fault("function z(){var a,b,c,d,e,f,g,h,i,j,k;function y(){var m,n,o,p,q,r,s,t,u,v,w,x}}", "0");
        fault("function z(){if(a){var " + twelve + "}else{var m}}", "4:0");
        fault("var " + twelve + ",m,n,o,p,q,r,s,t", "0");
        fault(names("var v", 40, ";"), "0");
        fault("function f(){}var " + twelve + ",m;try{}catch(n){}for(var o in p);", "0");
    }

    // A script of so many functions, sites, names and instructions.
    private static String sized(int functions, int sites, int names, int instructions) {
        StringBuilder s = new StringBuilder();
        int made = 2;
        for (int i = 0; i < functions; i++) {
            s.append("!function(){};");
            made += 5;
        }
        for (int i = 0; i < sites; i++) {
            s.append("[];");
            made += 2;
        }
        for (int i = 0; i < names - 31; i++) {
            s.append("n").append(i).append(";");
            made += 2;
        }
        if ((instructions - made) % 2 != 0) {
            s.append("!1;");
            made += 3;
        }
        while (made < instructions) {
            s.append("1;");
            made += 2;
        }
        return s.toString();
    }

    private static void product() {
        Kit.sentence("4, if (instructions + 2 * functions, with the script) * LABELS * NAMES are above 450,000");
        for (int functions = 0; functions <= 4; functions++) {
            for (int sites = 0; sites <= 19; sites += sites == 8 ? 1 : 3) {
                for (int names : new int[] {31, 40, 50, 80, 90}) {
                    bound(functions, sites, names);
                }
            }
        }
        bound(0, 8, 40);
        bound(0, 8, 50);
        bound(0, 8, 80);
        bound(1, 5, 50);
        bound(2, 2, 40);
        bound(2, 2, 80);
        Kit.check("450,000 itself", (250 - 2 + 2) * 45 * 40, 450000);
        fault(sized(0, 8, 40, 248), "0");
        fault(sized(0, 8, 40, 249), "4:0");
        fault(sized(0, 8, 41, 248), "4:0");
        fault(sized(0, 9, 40, 248), "4:0");
        fault(sized(1, 5, 40, 246), "0");
        fault(sized(1, 5, 40, 247), "4:0");
        fault(sized(1, 6, 40, 246), "4:0");
        fault(sized(2, 5, 40, 246), "4:0");
        fault(sized(0, 0, 31, 498), "0");
        fault(sized(0, 0, 31, 499), "4:0");
        Kit.sentence("4, if there are more than 600 instructions (they are too many for the product, too)");
        fault(times("1;", 299), "4:0");
        fault(times("1;", 300), "4:0");
        fault(times("1;", 1900), "4:0");
    }

    // The most instructions that the product lets stand, and one more.
    private static void bound(int functions, int sites, int names) {
        int labels = 29 + 6 * functions + 2 * sites;
        int most = 450000 / (labels * names) - 2 * (functions + 1);
        int least = 5 * functions + 2 * sites + 2 * (names - 31) + 2;
        if (most <= least + 3) {
            fault(sized(functions, sites, names, least), most < least ? "4:0" : "0");
            return;
        }
        ScriptTypes x = Kit.script(sized(functions, sites, names, most));
        Kit.check("counts of a script at the bound", x.count(0) + " " + x.count(1) + " " + x.count(2) + " " + x.count(3) + " " + x.count(4),
            most + " " + (functions + 1) + " " + names + " " + labels + " " + sites);
        fault(sized(functions, sites, names, most + 1), "4:0");
    }

    private static void fourIsLast() {
        Kit.sentence("Then, with line 0: 4");
        String much = times("[];", 20) + times("!function(){};", 11) + names("n", 60, ";");
        fault(much, "4:0");
        fault(much + ")", "2:1");
        fault(much + "\n@", "1:2");
        fault(much + "\n(", "2:2");
        fault(much + "\nbreak", "3:2");
        fault(much + "\n" + times("(", 20), "5:2");
        fault(much + "\n++5", "3:2");
        fault(times("1;", 1900) + "\n(", "2:2");
        fault(times("1;", 1900) + "\n\n", "4:0");
        fault(times("try{}finally{", 18) + "a" + times("}", 18) + "\n)", "2:2");
        fault(times("try{}finally{", 18) + "a" + times("}", 18), "4:0");
        fault("function f(a,b,c,d,e,g,h,i){var j,k,l,m,n}\n)", "2:2");
    }
}
