import java.util.ArrayList;
import java.util.HashMap;
import java.util.List;
import java.util.Map;

/** Section 2 of the terms: the code of each form in each other one, put together from the document's words. */
public final class NestTest {
    // A text, and its code: # is where another one stands, @1: a place, @1 behind a word that place.
    private static final String[][] STATEMENTS = {
        {"if(a)#", "GLOBAL:a UNLESS@1 # @1:"},
        {"if(a)#else b;", "GLOBAL:a UNLESS@1 # JUMP@2 @1: GLOBAL:b DROP @2:"},
        {"if(a)b;else #", "GLOBAL:a UNLESS@1 GLOBAL:b DROP JUMP@2 @1: # @2:"},
        {"while(a)#", "@1: GLOBAL:a UNLESS@2 # JUMP@1 @2:"},
        {"do # while(a);", "@1: # GLOBAL:a UNLESS@2 JUMP@1 @2:"},
        {"for(a;b;c)#", "GLOBAL:a DROP @1: GLOBAL:b UNLESS@2 # GLOBAL:c DROP JUMP@1 @2:"},
        {"for(;;)#", "@1: # JUMP@1"},
        {"for(a in b)#", "GLOBAL:b NAMESOF @1: NEXT@2 SETGLOBAL:a DROP # JUMP@1 @2:"},
        {"try{#}catch(e){b}", "TRY@1 # LEAVE JUMP@2 @1: SETGLOBAL:e DROP GLOBAL:b DROP @2:"},
        {"try{a}catch(e){#}", "TRY@1 GLOBAL:a DROP LEAVE JUMP@2 @1: SETGLOBAL:e DROP # @2:"},
        {"try{#}finally{b}", "TRY@1 # LEAVE GLOBAL:b DROP JUMP@2 @1: GLOBAL:b DROP THROW @2:"},
        {"try{a}finally{#}", "TRY@1 GLOBAL:a DROP LEAVE # JUMP@2 @1: # THROW @2:"},
        {"switch(a){case b:#case c:d}", "GLOBAL:a COPY GLOBAL:b BINARY13 UNLESS@1 DROP JUMP@3 @1: COPY GLOBAL:c BINARY13 UNLESS@2 DROP JUMP@4 @2: DROP JUMP@5 @3: # @4: GLOBAL:d DROP @5:"},
        {"switch(a){default:#case b:c}", "GLOBAL:a COPY GLOBAL:b BINARY13 UNLESS@1 DROP JUMP@3 @1: DROP JUMP@2 @2: # @3: GLOBAL:c DROP"},
        {"{b;#c;}", "GLOBAL:b DROP # GLOBAL:c DROP"},
        {"while(a){b;#c}", "@1: GLOBAL:a UNLESS@2 GLOBAL:b DROP # GLOBAL:c DROP JUMP@1 @2:"}};

    private static final String[][] LEAVES = {
        {"d;", "GLOBAL:d DROP"},
        {"a&&b;", "GLOBAL:a AND@1 GLOBAL:b @1: DROP"},
        {"a?b:c;", "GLOBAL:a UNLESS@1 GLOBAL:b JUMP@2 @1: GLOBAL:c @2: DROP"},
        {"while(a){break;continue}", "@1: GLOBAL:a UNLESS@2 JUMP@2 JUMP@1 JUMP@1 @2:"},
        {"for(;b;c){break;continue}", "@1: GLOBAL:b UNLESS@2 JUMP@2 JUMP@3 @3: GLOBAL:c DROP JUMP@1 @2:"},
        {"do{break;continue}while(b);", "@1: JUMP@2 JUMP@3 @3: GLOBAL:b UNLESS@2 JUMP@1 @2:"},
        {"switch(a){case b:break}", "GLOBAL:a COPY GLOBAL:b BINARY13 UNLESS@1 DROP JUMP@2 @1: DROP JUMP@3 @2: JUMP@3 @3:"}};

    private static final String[][] EXPRESSIONS = {
        {"a", "GLOBAL:a"},
        {"b&&(#)+c", "GLOBAL:b AND@1 # GLOBAL:c BINARY0 @1:"},
        {"b||(#)+c", "GLOBAL:b OR@1 # GLOBAL:c BINARY0 @1:"},
        {"(#)&&c", "# AND@1 GLOBAL:c @1:"},
        {"(#)||c", "# OR@1 GLOBAL:c @1:"},
        {"b?(#)+1:c", "GLOBAL:b UNLESS@1 # 1 BINARY0 JUMP@2 @1: GLOBAL:c @2:"},
        {"b?c:(#)+1", "GLOBAL:b UNLESS@1 GLOBAL:c JUMP@2 @1: # 1 BINARY0 @2:"},
        {"(#)?b:c", "# UNLESS@1 GLOBAL:b JUMP@2 @1: GLOBAL:c @2:"},
        {"f(b,#,c)", "undefined GLOBAL:f GLOBAL:b # GLOBAL:c CALL3"},
        {"o.k(#)", "GLOBAL:o COPY 'k' GET # CALL1"},
        {"o[#](1)", "GLOBAL:o COPY # GET 1 CALL1"},
        {"(#).k()", "# COPY 'k' GET CALL0"},
        {"(#)(1)", "undefined # 1 CALL1"},
        {"x=#", "# SETGLOBAL:x"},
        {"x+=#", "GLOBAL:x # BINARY0 SETGLOBAL:x"},
        {"o.k=#", "GLOBAL:o 'k' # PUT"},
        {"o[#]=1", "GLOBAL:o # 1 PUT"},
        {"o[#]+=1", "GLOBAL:o # COPYTWO GET 1 BINARY0 PUT"},
        {"o[#]++", "GLOBAL:o # COPYTWO GET UNARY0 UNDER 1 BINARY0 PUT DROP"},
        {"--o[#]", "GLOBAL:o # COPYTWO GET UNARY0 1 BINARY1 PUT"},
        {"(#).k++", "# 'k' COPYTWO GET UNARY0 UNDER 1 BINARY0 PUT DROP"},
        {"-(#)", "# UNARY1"},
        {"typeof(#)", "# UNARY4"},
        {"void(#)", "# DROP undefined"},
        {"delete o[#]", "GLOBAL:o # DELETE"},
        {"delete(#).k", "# 'k' DELETE"},
        {"(#)*c", "# GLOBAL:c BINARY2"},
        {"b-(#)", "GLOBAL:b # BINARY1"},
        {"(b,#)", "GLOBAL:b DROP #"},
        {"(#,c)", "# DROP GLOBAL:c"}};

    private NestTest() {
    }

    public static void main(String[] args) {
        Kit.sentence("The code of a function: .. (2. CODE)");
        statements();
        expressions();
        inStatements();
        Kit.end("NestTest");
    }

    private static int made;

    // Code with another one in it, wherever # stands: each with places of its own.
    private static String put(String outer, String inner) {
        StringBuilder s = new StringBuilder();
        String own = "@" + ++made + "_";
        for (String word : outer.split(" ")) {
            s.append(s.length() == 0 ? "" : " ").append(word.equals("#") ? inner.replace("@", "@" + ++made + "_") : word.replace("@", own));
        }
        return s.toString();
    }

    // The words with their places as numbers.
    private static String assembled(String code, int from) {
        Map<String, Integer> places = new HashMap<>();
        List<String> words = new ArrayList<>();
        for (String word : code.split(" ")) {
            if (word.startsWith("@") && word.endsWith(":")) {
                places.put(word.substring(0, word.length() - 1), from + words.size());
            } else if (!word.isEmpty()) {
                words.add(word);
            }
        }
        for (int i = 0; i < words.size(); i++) {
            int at = words.get(i).indexOf('@');
            if (at > 0) {
                words.set(i, words.get(i).substring(0, at) + places.get(words.get(i).substring(at)));
            }
        }
        return String.join(" ", words);
    }

    private static void code(String text, String want) {
        ScriptTypes x = Kit.script("var e;" + text);
        Kit.check("code of " + text, Kit.code(x), "undefined SETGLOBAL:e DROP " + assembled(want, 3) + " undefined RETURN");
        Kit.check("stray words of " + text, Kit.stray(x), "");
    }

    private static void statements() {
        for (String[] outer : STATEMENTS) {
            for (String[] leaf : LEAVES) {
                code(outer[0].replace("#", leaf[0]), put(outer[1], leaf[1]));
                for (String[] inner : STATEMENTS) {
                    code(outer[0].replace("#", braced(inner[0].replace("#", leaf[0]))), put(outer[1], put(inner[1], leaf[1])));
                }
            }
        }
    }

    // An if without else must not take that of the one around.
    private static String braced(String text) {
        return text.startsWith("if") ? "{" + text + "}" : text;
    }

    private static void expressions() {
        for (String[] outer : EXPRESSIONS) {
            for (String[] inner : EXPRESSIONS) {
                for (String[] leaf : new String[][] {EXPRESSIONS[0], EXPRESSIONS[1], EXPRESSIONS[5]}) {
                    String text = outer[0].replace("#", inner[0].replace("#", leaf[0].replace("#", "a")));
                    code(text + ";", put(outer[1], put(inner[1], put(leaf[1], "GLOBAL:a"))) + " DROP");
                }
            }
        }
    }

    private static void inStatements() {
        for (String[] one : EXPRESSIONS) {
            String e = one[0].replace("#", "b&&c");
            String c = put(one[1], "GLOBAL:b AND@1 GLOBAL:c @1:");
            code("if(" + e + ")d;else c", put("# UNLESS@1 GLOBAL:d DROP JUMP@2 @1: GLOBAL:c DROP @2:", c));
            code("while(" + e + ")d", put("@1: # UNLESS@2 GLOBAL:d DROP JUMP@1 @2:", c));
            code("do d;while(" + e + ")", put("@1: GLOBAL:d DROP # UNLESS@2 JUMP@1 @2:", c));
            code("for(" + e + ";b;c)d", put("# DROP @1: GLOBAL:b UNLESS@2 GLOBAL:d DROP GLOBAL:c DROP JUMP@1 @2:", c));
            code("for(;" + e + ";c)d", put("@1: # UNLESS@2 GLOBAL:d DROP GLOBAL:c DROP JUMP@1 @2:", c));
            code("for(;;" + e + ")d", put("@1: GLOBAL:d DROP # DROP JUMP@1", c));
            code("for(var e=" + e + ";;)d", put("# SETGLOBAL:e DROP @1: GLOBAL:d DROP JUMP@1", c));
            code("for(a in " + e + ")d", put("# NAMESOF @1: NEXT@2 SETGLOBAL:a DROP GLOBAL:d DROP JUMP@1 @2:", c));
            code("switch(" + e + "){case 1:d}", put("# COPY 1 BINARY13 UNLESS@1 DROP JUMP@2 @1: DROP JUMP@3 @2: GLOBAL:d DROP @3:", c));
            code("switch(d){case " + e + ":d}", put("GLOBAL:d COPY # BINARY13 UNLESS@1 DROP JUMP@2 @1: DROP JUMP@3 @2: GLOBAL:d DROP @3:", c));
            code("throw " + e, put("# THROW", c));
            code("var e=" + e, put("# SETGLOBAL:e DROP", c));
        }
    }
}
