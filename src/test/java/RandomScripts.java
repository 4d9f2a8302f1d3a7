import java.util.Random;

/** Scripts by chance, the same ones for the same seed. */
final class RandomScripts {
    private final Random random;
    private final StringBuilder text = new StringBuilder();
    private int budget;
    private int loops;
    private int switches;
    private int functions;
    private int tries;

    RandomScripts(long seed) {
        random = new Random(seed * 7919 + 13);
    }

    private int roll(int n) {
        return random.nextInt(n);
    }

    private String pick(String... of) {
        return of[roll(of.length)];
    }

    private void add(String s) {
        text.append(s);
    }

    /** A script of about so many pieces. */
    String script(int size) {
        text.setLength(0);
        budget = size;
        loops = 0;
        switches = 0;
        functions = 0;
        tries = 0;
        int parts = 1 + roll(6);
        int wrap = roll(8);
        if (roll(4) > 0) {
            begin();
        }
        if (wrap < 3) {
            add(pick("for(;;){n=n+1;", "for(;;){", "for(var n=0;n<99;n++){", "while(true){s+='x';"));
            add("try{");
            loops++;
            tries++;
        }
        for (int i = 0; i < parts; i++) {
            if (wrap < 3) {
                statement(1);
            } else {
                part(0);
            }
        }
        if (wrap < 3) {
            add("}catch(e){" + pick("", "", "a=e", "print(e)") + "}" + pick("", "", "", "finally{x=1}") + "}");
        }
        return text.toString();
    }

    /** A script of loops, tries and ways out of them in one another. */
    String ways() {
        text.setLength(0);
        loops = 0;
        switches = 0;
        budget = 6 + roll(14);
        add("i=0;o={p:1,q:2,r:3};function f(a){");
        way(0);
        way(0);
        add("return 'end'}for(var k in [1,2,3])try{print(f(k))}catch(e){print(e)}");
        return text.toString();
    }

    private void wayBlock(int deep) {
        add("{");
        for (int i = roll(3); i >= 0; i--) {
            way(deep + 1);
        }
        add("}");
    }

    private void way(int deep) {
        budget--;
        switch (budget < 0 || deep > 8 ? roll(5) : 3 + roll(12)) {
            case 0:
            case 3: add("i++;"); break;
            case 1: add("print(i);"); break;
            case 2: add("if(i%3)throw i;"); break;
            case 4:
            case 5:
                add(pick("", "if(i&1)", "if(i>2)", "if(a==1)"));
                if (loops > 0) {
                    add(pick("break;", "continue;", "continue;", "return i;"));
                } else {
                    add(switches > 0 ? pick("break;", "return;") : "return i;");
                }
                break;
            case 6:
            case 7:
                add("try");
                wayBlock(deep);
                add("finally");
                wayBlock(deep);
                break;
            case 8:
                add("try");
                wayBlock(deep);
                add("catch(e)");
                wayBlock(deep);
                break;
            case 9:
                add("try");
                wayBlock(deep);
                add("catch(e)");
                wayBlock(deep);
                add("finally");
                wayBlock(deep);
                break;
            case 10:
            case 11:
                add(pick("for(var k in o)", "while(i++<9)", "for(;i<7;i++)", "for(k in o)"));
                loops++;
                wayBlock(deep);
                loops--;
                break;
            case 12:
                add("do");
                loops++;
                wayBlock(deep);
                loops--;
                add("while(i++<5)");
                break;
            case 13:
                add("switch(i){case 1:");
                switches++;
                way(deep + 1);
                add(pick("default:", "case 2:", "case 0:"));
                way(deep + 1);
                switches--;
                add("}");
                break;
            default:
                add("if(i%2)");
                wayBlock(deep);
                break;
        }
    }

    /** The script with names that are there anyway, so that it may be longer. */
    static String compact(String script) {
        String[] names = {"a", "object", "b", "boolean", "c", "string", "x", "number", "y", "charAt", "o", "length", "f", "push", "g", "pop",
            "h", "call", "j", "i", "n", "i", "p", "message", "q", "name", "k", "e", "r", "s", "text", "s"};
        String text = script;
        for (int i = 0; i < names.length; i += 2) {
            text = text.replaceAll("\\b" + names[i] + "\\b", names[i + 1]);
        }
        return text;
    }

    // So that most names mean something.
    private void begin() {
        add(pick("a=[1,'s',{p:1}];", "var a=[];", "a='text';", ""));
        add(pick("b=5;", "var b={p:1,q:2};", "b=true;"));
        add(pick("c='1';", "c=null;", "c=NaN;"));
        add(pick("x=1;", "x='p';", "x={};"));
        add(pick("y=[];", "y=0;", ""));
        add(pick("o={p:1,q:'r'};", "o={p:function(a){return this},q:{}};", "o=[o];", "o=new Object;"));
        add(pick("var i=0,j=0,n=0,s='';", "i=0;n='';s='x';"));
        add(pick("function F(a){this.p=a}F.prototype.q=function(b){return this.p+b};", "function F(){}F.prototype=o;", "F=function k(a){return k};"));
        add(pick("function f(a,b){return a}", "f=function(){return this};", "function f(x){throw x}", "function f(a){var x=a;return function(){return x++}}"));
        add(pick("function g(n){return n<1?0:1+g(n-1)}", "g=print;", "g=f;", "function g(){a=new F(1);return a}"));
        add("h=g;");
    }

    /** The script with some of its words changed, so that it may have a fault. */
    String broken(String script) {
        String[] words = script.split("(?<=[^A-Za-z0-9_$])|(?=[^A-Za-z0-9_$])");
        String[] others = {"(", ")", "{", "}", "[", "]", ";", ",", ".", "=", "+=", "++", "--", "-", "!", "in", "instanceof", "?", ":",
            "break", "continue", "return", "default:", "case 1:", "function", "new", "delete", "typeof", "else", "catch", "finally",
            "var", "x", "5", "'s'", "\n", "\n", " ", "/*", "//", "*/", "@", "'", "12345678901", "5a", "if", "for", "while", "do",
            "throw", "try", "switch", "void", "&&", "||", "&", "===", ">>>=", "abcdefghijklmnopq", "2147483648", "\\", "a,a", "this"};
        int changes = 1 + roll(3);
        for (int i = 0; i < changes && words.length > 0; i++) {
            int at = roll(words.length);
            switch (roll(4)) {
                case 0: words[at] = ""; break;
                case 1: words[at] = pick(others); break;
                case 2: words[at] = words[at] + pick(others); break;
                default: words[at] = words[roll(words.length)]; break;
            }
        }
        return String.join("", words);
    }

    private void part(int deep) {
        if (functions < 5 && roll(4) == 0) {
            add("function " + pick("f", "g", "h", "F") + rest(deep) + pick("", "\n", " "));
        } else {
            statement(deep);
        }
    }

    // Where a function's text is wanted inside of what is being added.
    private String rest(int deep) {
        int from = text.length();
        int outerLoops = loops;
        int outerSwitches = switches;
        int outerTries = tries;
        loops = 0;
        switches = 0;
        tries = 0;
        functions++;
        add("(" + pick("", "a", "a,b", "b,a,c", "x") + "){");
        functionDepth++;
        int parts = roll(4);
        for (int i = 0; i < parts; i++) {
            if (deep < 3 && roll(8) == 0) {
                part(deep + 2);
            } else {
                statement(deep + 2);
            }
        }
        if (roll(2) == 0) {
            add("return ");
            expression(deep + 2);
        }
        functionDepth--;
        add("}");
        loops = outerLoops;
        switches = outerSwitches;
        tries = outerTries;
        String body = text.substring(from);
        text.setLength(from);
        return body;
    }

    private int functionDepth;

    private void end() {
        add(pick(";", ";", ";", "\n", ";\n"));
    }

    private void block(int deep) {
        add("{");
        int many = roll(3);
        for (int i = 0; i < many; i++) {
            statement(deep + 1);
        }
        add("}");
    }

    private String variable() {
        return pick("a", "b", "c", "x", "y", "o", "f", "g", "F");
    }

    private void statement(int deep) {
        budget--;
        int kind = budget < 0 || deep > 7 ? roll(4) : roll(22);
        switch (kind) {
            case 0:
            case 1:
            case 2:
            case 3:
                call(deep);
                end();
                break;
            case 4:
            case 5:
                add("var " + variable() + "=");
                assignment(deep + 1);
                if (roll(4) == 0) {
                    add("," + variable());
                }
                end();
                break;
            case 6:
            case 7:
                add(variable() + pick("=", "=", "=", "+=", "-="));
                assignment(deep + 1);
                end();
                break;
            case 8:
            case 9:
                member(deep);
                add(pick("=", "=", "=", "+=", "*=", ">>>="));
                assignment(deep + 1);
                end();
                break;
            case 10:
            case 11:
                add("if(");
                expression(deep + 1);
                add(")");
                block(deep + 1);
                if (roll(2) == 0) {
                    add("else ");
                    statement(deep + 1);
                }
                break;
            case 12: loop(deep); break;
            case 13:
                add("for(" + pick("var ", "") + variable() + " in ");
                expression(deep + 1);
                add(")");
                loops++;
                block(deep + 1);
                loops--;
                break;
            case 14:
            case 15: tryStatement(deep); break;
            case 16: switchStatement(deep); break;
            case 17:
                if (functionDepth > 0) {
                    add("return ");
                    expression(deep + 1);
                    end();
                } else {
                    block(deep);
                }
                break;
            case 18:
                if (loops > 0) {
                    add("if(" + variable() + ")");
                    add(pick("break", "continue"));
                    end();
                } else {
                    add(";");
                }
                break;
            case 19:
                if (loops + switches > 0) {
                    add(loops > 0 ? pick("break", "continue") : "break");
                } else {
                    add(pick("x++", "--y", "a\n++b", "delete o.p", "o.p--", "++o[x]", "delete o[x]"));
                }
                end();
                break;
            case 20:
                if (roll(2) == 0) {
                    add("throw ");
                    expression(deep + 1);
                    end();
                } else {
                    add("try{throw ");
                    expression(deep + 1);
                    add("}catch(e){print(e.name)}");
                }
                break;
            default:
                add("print(");
                assignment(deep + 1);
                add(")");
                end();
                break;
        }
    }

    private void loop(int deep) {
        String i = pick("i", "j");
        loops++;
        switch (roll(4)) {
            case 0:
                add("for(" + pick("var ", "") + i + "=0;" + i + "<" + pick("2", "3", "5") + ";" + i + "++)");
                block(deep + 1);
                break;
            case 1:
                add(i + "=3;while(" + i + "--)");
                block(deep + 1);
                break;
            case 2:
                add(i + "=0;do ");
                block(deep + 1);
                add("while(" + i + "++<2)" + pick(";", "", "\n"));
                break;
            default:
                add("for(;;){");
                statement(deep + 1);
                add("break}");
                break;
        }
        loops--;
    }

    private void tryStatement(int deep) {
        if (tries > 1) {
            block(deep);
            return;
        }
        tries++;
        add("try");
        block(deep + 1);
        boolean caught = roll(3) > 0;
        if (caught) {
            add("catch(" + pick("e", "x") + ")");
            block(deep + 1);
        }
        if (!caught || roll(3) == 0) {
            add("finally");
            block(deep + 1);
        }
        tries--;
    }

    private void switchStatement(int deep) {
        add("switch(");
        expression(deep + 1);
        add("){");
        int many = roll(4);
        boolean def = false;
        switches++;
        for (int i = 0; i < many; i++) {
            if (!def && roll(4) == 0) {
                def = true;
                add("default:");
            } else {
                add("case ");
                expression(deep + 2);
                add(":");
            }
            if (roll(3) > 0) {
                statement(deep + 2);
            }
            if (roll(2) == 0) {
                add("break;");
            }
        }
        switches--;
        add("}");
    }

    private void expression(int deep) {
        assignment(deep);
        if (roll(25) == 0) {
            add(",");
            assignment(deep);
        }
    }

    private void arguments(int deep) {
        add("(");
        int many = roll(3);
        for (int i = 0; i < many; i++) {
            add(i > 0 ? "," : "");
            assignment(deep + 1);
        }
        add(")");
    }

    private String property() {
        return pick("p", "q", "length", "prototype", "constructor", "name", "message", "1", "x");
    }

    private void member(int deep) {
        if (roll(5) == 0) {
            add("(");
            expression(deep + 1);
            add(")");
        } else {
            add(pick("a", "b", "o", "o", "x", "F", "this", "F.prototype", "Object", "Array.prototype"));
        }
        if (roll(3) == 0) {
            add("[");
            expression(deep + 2);
            add("]");
        } else {
            String p = property();
            add(p.equals("1") ? "[1]" : "." + p);
        }
    }

    private void call(int deep) {
        switch (roll(9)) {
            case 0:
            case 1:
            case 2:
                add(pick("f", "g", "h", "F", "String", "isNaN", "Object", "Array", "Error", "TypeError", "print"));
                arguments(deep);
                break;
            case 3:
                member(deep);
                arguments(deep);
                break;
            case 4:
                add(pick("a", "o", "x", "y") + "." + pick("push", "pop", "hasOwnProperty", "charAt", "p", "q", "call"));
                arguments(deep);
                break;
            case 5:
                add(pick("f", "F", "print", "a.push", "o.hasOwnProperty", "g.call") + ".call");
                arguments(deep);
                break;
            case 6:
                add("a=new " + pick("F", "F", "f", "Array", "Object", "RangeError", "o.p"));
                if (roll(3) > 0) {
                    arguments(deep);
                }
                break;
            default:
                add("print(");
                assignment(deep + 1);
                add(")");
                break;
        }
    }

    private void assignment(int deep) {
        budget--;
        if (budget < 0 || deep > 9) {
            atom();
            return;
        }
        switch (roll(26)) {
            case 0:
            case 1:
            case 2:
            case 3: atom(); break;
            case 4:
            case 5: member(deep + 1); break;
            case 6:
            case 7:
                unit(deep);
                add(pick("+", "-", "*", "/", "%", "<<", ">>", ">>>", "&", "|", "^", "==", "!=", "===", "!==", "<", ">", "<=", ">=",
                    " in ", " instanceof ", "&&", "||"));
                unit(deep);
                break;
            case 8:
                unit(deep);
                add(pick("+", "&&", "||", "<", "*"));
                unit(deep);
                add(pick("-", "&&", "||", "==", "/"));
                unit(deep);
                break;
            case 9:
                add(pick("typeof ", "!", "-", "+", "~", "void ", "typeof(", "delete o.", "++", "o.p=", "x=", "y+=").replace("delete o.", "!"));
                if (text.charAt(text.length() - 1) == '(') {
                    unit(deep);
                    add(")");
                } else {
                    add(variable());
                }
                break;
            case 10:
            case 11: call(deep + 1); break;
            case 12:
                if (functions < 7) {
                    functions++;
                    add("function" + pick("", "", " f", " k") + rest(deep));
                } else {
                    atom();
                }
                break;
            case 13:
            case 14:
                add("[");
                for (int i = roll(4); i > 0; i--) {
                    assignment(deep + 1);
                    add(i > 1 ? "," : "");
                }
                add("]");
                break;
            case 15:
            case 16:
            case 17:
                add("{");
                for (int i = roll(3); i > 0; i--) {
                    add(pick("p", "q", "'x y'", "1", "in", "length", "name") + ":");
                    assignment(deep + 1);
                    add(i > 1 ? "," : "");
                }
                add("}");
                break;
            case 18:
                unit(deep);
                add("?");
                assignment(deep + 1);
                add(":");
                assignment(deep + 1);
                break;
            case 19:
            case 20:
                add("new " + pick("F", "f", "Object", "Array", "Error", "F", "o.p", "g"));
                if (roll(3) > 0) {
                    arguments(deep);
                }
                break;
            case 21:
                add(variable() + pick("++", "--", "=", "+="));
                if (text.charAt(text.length() - 1) == '=') {
                    assignment(deep + 1);
                }
                break;
            case 22:
                add("o." + property().replace("1", "p") + pick("++", "--"));
                break;
            default: atom(); break;
        }
    }

    private void unit(int deep) {
        switch (roll(5)) {
            case 0:
                add("(");
                expression(deep + 2);
                add(")");
                break;
            case 1: member(deep + 1); break;
            default: atom(); break;
        }
    }

    private void atom() {
        add(pick("a", "b", "c", "x", "y", "o", "f", "F", "this", "0", "1", "2", "7", "100", "2147483647", "''", "'a'", "'1'", "'length'",
            "'p'", "\"q\"", "true", "false", "null", "undefined", "NaN", "{}", "[]", "(-1)", "'-5'", "'b\\n'"));
    }
}
