/** Section 3 of the terms and promises 8 to 15: each sentence that names a bound, on both of its sides. */
public final class MachineBoundsTest {
    private MachineBoundsTest() {
    }

    public static void main(String[] args) {
        wraps();
        texts();
        numbers();
        truths();
        cuts();
        unaries();
        sums();
        products();
        shifts();
        sameness();
        equality();
        orders();
        objectRoom();
        propertyRoom();
        stringRoom();
        roomLeft();
        globals();
        textsAhead();
        gets();
        puts();
        indices();
        deletes();
        ins();
        instances();
        calls();
        frames();
        variables();
        news();
        prints();
        makers();
        pushes();
        pops();
        callNative();
        ownProperties();
        signsOfStrings();
        steps();
        shortWays();
        lists();
        thrown();
        stops();
        lookingAtFrames();
        lookingAtValues();
        lookingAtObjects();
        lookingAtLines();
        Kit.end("MachineBoundsTest");
    }

    private static void output(String text, String want) {
        Kit.check("output of " + text, Kit.output(text), want);
    }

    private static void prints(String expression, String want) {
        output("print(" + expression + ")", want + "/ended");
    }

    // Each expression's text, as a script prints it that does nothing else.
    private static void each(String want, String... expressions) {
        for (String expression : expressions) {
            prints(expression, want);
        }
    }

    private static String x(int n) {
        return "x".repeat(n);
    }

    private static void wraps() {
        Kit.sentence("numbers (ints; what is worked out wraps)");
        each("-2147483648", "2147483647+1", "-2147483647-1", "-(-2147483647-1)", "(-2147483647-1)/-1", "(-2147483647-1)*-1", "1<<31", "1073741824*2", "(a=2147483647,++a)",
            "(a=2147483647,a+=1)");
        each("2147483647", "2147483646+1", "-2147483647-2", "(a=-2147483647-1,--a)", "-1>>>1", "~(-2147483647-1)");
        each("-2", "2147483647+2147483647", "2147483647*2");
        each("1", "2147483647*2147483647", "-2147483647*-2147483647");
        each("0", "65536*65536", "(-2147483647-1)+(-2147483647-1)", "(-2147483647-1)*2", "(-2147483647-1)%-1", "-0");
    }

    private static void texts() {
        Kit.sentence("The TEXT of a value: undefined, null, true, false, NaN, digits (- ahead of one below 0), itself; of an object [object].");
        prints("undefined", "undefined");
        prints("null", "null");
        prints("true", "true");
        prints("false", "false");
        prints("NaN", "NaN");
        prints("0", "0");
        prints("-1", "-1");
        prints("1000000000", "1000000000");
        prints("2147483647", "2147483647");
        prints("-2147483647-1", "-2147483648");
        prints("007", "7");
        prints("''", "");
        prints("' a '", " a ");
        each("[object]", "{}", "[]", "[1,2]", "print", "function(){}", "Error('m')", "Array");
    }

    private static void numbers() {
        Kit.sentence("Its NUMBER: NaN of undefined and objects; 0 of null and false, 1 of true");
        each("NaN", "+undefined", "+{}", "+[]", "+[5]", "+print", "+NaN");
        each("0", "+null", "+false", "+0");
        each("1", "+true", "+1");
        Kit.sentence("of a string that is empty 0; of digits (1 to 10), perhaps - ahead, what they mean, if that is an int; else NaN");
        each("0", "+''", "+'0'", "+'-0'", "+'0000000000'", "+'-0000000000'");
        each("5", "+'5'", "+'05'", "+'0000000005'", "- -'5'");
        each("-5", "+'-5'", "+'-0000000005'", "-'5'");
        each("2147483647", "+'2147483647'", "-'-2147483647'");
        each("-2147483648", "+'-2147483648'", "-'-2147483648'");
        each("1234567890", "+'1234567890'");
        each("NaN", "+'2147483648'", "+'-2147483649'", "+'9999999999'", "+'-9999999999'", "+'4294967296'", "+'4294967297'", "+'00000000000'", "+'00000000005'", "+'-00000000005'",
            "+'12345678901'", "+'-'", "+'--1'", "+'- 1'", "+'+1'", "+' 1'", "+'1 '", "+' '", "+'1a'", "+'a'", "+'a1'", "+'1-'", "+'1.0'", "+'1e1'", "+'0x1'", "+'true'", "+'null'",
            "+'\\n'", "+'1\\n'", "+'/'", "+':'", "-'x'", "+'-x'", "+'1,0'");
        each("9", "+'9'");
        each("99999999", "+'99999999'");
    }

    private static void truths() {
        Kit.sentence("TRUE are all but undefined, null, false, 0, NaN, the empty string.");
        for (String value : new String[] {"undefined", "null", "false", "0", "NaN", "''", "-0", "1-1", "'x'-1", "''+''"}) {
            output("v=" + value + ";print(!v);print(v?1:2);if(v)print(3);else print(4);while(v){print(5);break}print(v&&6);print(v||7)",
                "true/2/4/" + text(value) + "/7/ended");
        }
        for (String value : new String[] {"true", "1", "-1", "2147483647", "'0'", "' '", "'false'", "'NaN'", "{}", "[]", "print", "-2147483647-1", "Error()"}) {
            output("v=" + value + ";print(!v);print(v?1:2);if(v)print(3);else print(4);while(v){print(5);break}print(v&&6);print((v||7)===v)",
                "false/1/3/5/6/true/ended");
        }
    }

    private static String text(String expression) {
        return Kit.printedLine(Kit.run("print(" + expression + ")"), 0);
    }

    private static void cuts() {
        Kit.sentence("Strings are cut to 60 signs whenever they are made.");
        String forty = x(40);
        for (int n = 17; n <= 40; n++) {
            prints("'" + forty + "'+'" + "y".repeat(n) + "'", forty + "y".repeat(Math.min(n, 20)));
        }
        prints("('" + forty + "'+'" + x(20) + "').length", "60");
        prints("('" + forty + "'+'" + x(19) + "').length", "59");
        prints("('" + forty + "'+'" + x(21) + "').length", "60");
        prints("'" + forty + "'+'" + x(17) + "'+123", forty + x(17) + "123");
        prints("'" + forty + "'+'" + x(18) + "'+123", forty + x(18) + "12");
        prints("'" + forty + "'+'" + x(18) + "'+-5", forty + x(18) + "-5");
        prints("'" + forty + "'+'" + x(19) + "'+-5", forty + x(19) + "-");
        prints("'" + forty + "'+'" + x(19) + "'+{}", forty + x(19) + "[");
        prints("'" + forty + "'+'" + x(20) + "'+true", forty + x(20));
        ScriptTypes y = Kit.run("a='" + forty + "'+'" + x(20) + "';b=a+'y';c=a+a;print(a===b);print(a===c)");
        Kit.check("what is cut to a string that is there is that one", Kit.output(y) + y.count(9), "true/true/ended" + (y.count(2) + 1));
        ScriptTypes z = Kit.run("a='" + forty + "';o={};o[a+a]=1;print(a+a in o);for(k in o)print(k.length)");
        Kit.check("names of properties", Kit.output(z), "true/60/ended");
    }

    private static void unaries() {
        Kit.sentence("UNARY: + the number; - 0 less it (NaN of NaN); ~ its bits turned (NaN counts as 0); ! ; typeof");
        each("NaN", "-undefined", "-{}", "-'x'", "-NaN", "+NaN");
        each("0", "-null", "-0", "-''", "-false", "~-1", "~'-1'");
        each("-1", "-true", "~NaN", "~undefined", "~{}", "~'x'", "~null", "~0", "~''", "~false");
        each("-2", "~1", "~true", "~'1'");
        each("-2147483648", "~2147483647", "-(-2147483647-1)");
        each("undefined", "typeof undefined", "typeof q", "typeof void 0", "typeof {}.x");
        each("object", "typeof null", "typeof {}", "typeof []", "typeof Error()", "typeof Object.prototype");
        each("boolean", "typeof true", "typeof false", "typeof !1");
        each("number", "typeof 0", "typeof NaN", "typeof -1", "typeof +'x'");
        each("string", "typeof ''", "typeof 'a'", "typeof typeof 1", "typeof String(1)");
        each("function", "typeof print", "typeof function(){}", "typeof Error", "typeof [].push", "typeof print.call");
    }

    private static int made(String text) {
        ScriptTypes x = Kit.run(text);
        return x.count(9) - x.count(2);
    }

    private static void sums() {
        Kit.sentence("BINARY + : if one is a string or object: both texts one behind the other; else the sum of both numbers");
        prints("1+'2'", "12");
        prints("'1'+2", "12");
        prints("1+2+'3'", "33");
        prints("'1'+2+3", "123");
        prints("{}+1", "[object]1");
        prints("1+{}", "1[object]");
        prints("[]+[]", "[object][object]");
        prints("print+null", "[object]null");
        prints("''+undefined", "undefined");
        prints("''+''", "");
        each("3", "1+2", "true+2", "2+true", "null+3", "3+false");
        each("NaN", "undefined+1", "1+undefined", "NaN+1", "1+NaN", "undefined+null", "undefined+true");
        each("2", "true+true", "null+2");
        each("0", "null+null", "false+null");
        ScriptTypes named = Kit.run("print('len'+'gth');print(''+'');print('pro'+'totype');print({length:7}['len'+'gth'])");
        Kit.check("texts that are names are those names", named.printed(0, -1) + " " + named.printed(1, -1) + " " + named.printed(2, -1) + " " + Kit.printedLine(named, 3) + " "
            + (named.count(9) - named.count(2)), "0 30 1 7 1");
        Kit.sentence("(that alone is made)");
        Kit.check("'a'+5", made("'a'+5") + " " + made("'a'+5+6") + " " + made("5+'a';5+'a'") + " " + made("'a'+''") + " " + made("'a'+5;'a5'"), "1 2 1 0 0");
        Kit.check("{}+7", made("a={}+7") + " " + made("7+7") + " " + made("{};''+{}") + " " + made("[]+{}") + " " + made("'a'+null;'anull'"), "1 0 0 1 0");
    }

    private static void products() {
        Kit.sentence("- * / (rounded towards 0) % (with a's sign) of numbers; NaN, if one is NaN, or / and % by 0");
        prints("7/2", "3");
        prints("-7/2", "-3");
        prints("7/-2", "-3");
        prints("-7/-2", "3");
        prints("1/2", "0");
        prints("-1/2", "0");
        prints("6/3", "2");
        prints("7%4", "3");
        prints("-7%4", "-3");
        prints("7%-4", "3");
        prints("-7%-4", "-3");
        prints("8%4", "0");
        prints("-8%4", "0");
        prints("'7'-'2'", "5");
        prints("'7'*'2'", "14");
        prints("'7'/'2'", "3");
        prints("'7'%'4'", "3");
        prints("true*5", "5");
        prints("null*5", "0");
        prints("5-null", "5");
        prints("''-1", "-1");
        each("NaN", "1/0", "0/0", "1%0", "0%0", "-1/0", "1/null", "1/''", "1/false", "1%null", "1-undefined", "undefined-1", "1*NaN", "NaN*1", "NaN*0", "0/NaN", "NaN/1", "NaN%1", "1%NaN",
            "{}-1", "1-{}", "'x'*1", "1*'x'", "NaN-NaN", "NaN/0", "[]*1", "(-2147483647-1)/0");
        each("0", "5*0", "0*0", "-5*0", "null*null", "'0'*7", "5*''", "0-0", "0/1", "0%1", "0/-1", "null/1", "1%1", "0*5", "(-2147483647-1)%-1");
        prints("2147483647/-1", "-2147483647");
        prints("(-2147483647-1)/1", "-2147483648");
    }

    private static void shifts() {
        Kit.sentence("<< >> >>> & | ^ of both numbers, NaN as 0 (shifts by the lowest five bits of the second; >>> likewise fills with 0s)");
        prints("1<<0", "1");
        prints("1<<1", "2");
        prints("1<<31", "-2147483648");
        prints("1<<32", "1");
        prints("1<<33", "2");
        prints("1<<-1", "-2147483648");
        prints("1<<-32", "1");
        prints("3<<31", "-2147483648");
        prints("-8>>1", "-4");
        prints("-1>>31", "-1");
        prints("-8>>32", "-8");
        prints("-8>>33", "-4");
        prints("-8>>-31", "-4");
        prints("8>>31", "0");
        prints("-1>>>0", "-1");
        prints("-1>>>1", "2147483647");
        prints("-1>>>31", "1");
        prints("-1>>>32", "-1");
        prints("-1>>>33", "2147483647");
        prints("-1>>>-1", "1");
        prints("8>>>2", "2");
        prints("'8'>>'2'", "2");
        prints("true<<true", "2");
        each("0", "NaN<<1", "{}>>1", "undefined>>>1", "NaN|0", "NaN&5", "5&{}", "undefined^0", "'x'|'y'", "null|null", "5^5", "5&2");
        each("5", "5<<NaN", "5>>undefined", "5>>>{}", "NaN|5", "5^NaN", "5|'x'", "5&7", "'5'|0", "4|1", "7^2", "5&-1", "5|null", "5<<null");
        each("-1", "-1|0", "-1&-1", "~0|5", "0^-1", "-1>>5", "5|-1");
    }

    private static void sameness() {
        Kit.sentence("=== : the same sort and the same (NaN never; the same object).");
        each("true", "undefined===undefined", "null===null", "true===true", "false===false", "5===5", "'a'==='a'", "''===''", "'a'+'b'==='ab'", "print===print", "(a={})===a",
            "[].push===Array.prototype.push", "(-0)===0", "NaN!==NaN", "1!=='1'", "{}!=={}", "undefined!==null");
        each("false", "NaN===NaN", "undefined===null", "null===undefined", "true===1", "1===true", "0===false", "'1'===1", "1==='1'", "''===0", "{}==={}", "[]===[]", "true===false",
            "'a'==='b'", "'a'==='A'", "5===6", "{}==='[object]'", "null===0", "undefined===NaN", "5!==5", "'a'!=='a'", "print===isNaN", "null==={}", "true==='true'");
    }

    private static void equality() {
        Kit.sentence("== : as ===, if both are of one sort of: undefined and null; booleans; numbers (NaN too); strings; objects");
        each("true", "undefined==undefined", "null==null", "true==true", "5==5", "'a'=='a'", "print==print");
        each("false", "true==false", "5==6", "NaN==NaN", "NaN==5", "5==NaN", "'a'=='b'", "{}=={}", "'1'=='01'", "''=='0'", "'NaN'==NaN");
        Kit.sentence("undefined and null are alike");
        each("true", "undefined==null", "null==undefined");
        Kit.sentence("of two others that are no objects, undefined, null: their numbers are alike, and none NaN; else false");
        each("true", "true==1", "1==true", "false==0", "'1'==1", "1=='1'", "'01'==1", "''==0", "0==''", "true=='1'", "'1'==true", "false==''", "''==false", "'-0'==0", "false=='0'");
        each("false", "true==2", "'a'==1", "'x'==NaN", "NaN=='x'", "true=='true'", "null==0", "0==null", "null==false", "false==null", "undefined==0", "undefined==false", "undefined==NaN",
            "NaN==undefined", "null==''", "''==null", "{}==1", "1=={}", "{}=='[object]'", "'[object]'=={}", "{}==null", "null=={}", "undefined=={}", "{}==true", "true=={}", "[]==''", "[]==0",
            "true==NaN", "NaN==true", "'NaN'==NaN", "'2147483648'==NaN", "undefined==''", "{}==NaN");
        Kit.sentence("!= and !== are the other way round");
        each("false", "undefined!=null", "1!='1'", "''!=0", "true!=1", "print!=print");
        each("true", "NaN!=NaN", "null!=0", "{}!={}", "undefined!=0", "'a'!='b'", "{}!='[object]'");
    }

    private static void orders() {
        Kit.sentence("< > <= >= : two strings by their signs (the shorter one first), else both numbers, false with NaN");
        each("true", "'a'<'b'", "'a'<'aa'", "'aa'<'b'", "''<'a'", "'Z'<'a'", "'10'<'9'", "' '<'0'", "'a'<='a'", "'a'>='a'", "''<=''", "'b'>'a'", "'aa'>'a'", "'b'>'aa'", "'b'>='a'", "'a'<='b'",
            "'a1'<'a2'", "'\\n'<' '", "'~'>'z'", "1<2", "1<=1", "2>1", "1>=1", "-1<0", "-2147483647-1<2147483647", "9<'10'", "'9'<10", "null<1", "null<=0", "false<true", "''<1",
            "null>=false", "true>='1'", "true<2", "'-5'<0");
        each("false", "'b'<'a'", "'a'<'a'", "'a'>'a'", "'aa'<'a'", "'a'>'aa'", "'b'<'aa'", "'a'>='aa'", "'b'<='aa'", "''<''", "'10'>'9'", "1<1", "1>1", "2<=1", "1>=2", "9>'10'", "'10'<9",
            "undefined<1", "undefined>1", "undefined<=undefined", "undefined>=undefined", "NaN<NaN", "NaN<=NaN", "NaN>=1", "1<=NaN", "'x'<1", "'x'>=1", "1<'x'", "1>='x'", "{}<1", "{}>=1",
            "{}<={}", "{}>={}", "{}<'a'", "'a'<{}", "'[object]'<={}", "null<null", "'a'<=1", "undefined<null", "null>=undefined");
    }

    private static void objectRoom() {
        Kit.sentence("OBJECTS are numbered from 0 on as they are made, 300 at most");
        ScriptTypes full = Kit.run("for(i=0;i<277;i++)[]");
        Kit.check("300 objects", Kit.output(full) + " " + full.count(8), "ended 300");
        ScriptTypes more = Kit.run("for(i=0;i<278;i++)[]");
        Kit.check("one more", Kit.output(more) + " " + more.count(8), "no room 300");
        String near = "for(i=0;i<276;i++)[];";
        String at = "for(i=0;i<277;i++)[];";
        for (String one : new String[] {"[]", "a={}", "Object()", "Array()", "new Object", "new Array", "Error()", "new TypeError('a')", "try{null.x}catch(e){}", "try{q}catch(e){}",
            "try{5()}catch(e){}", "try{Array.prototype.pop.call(1)}catch(e){}", "try{1 in 2}catch(e){}", "try{new 5}catch(e){}"}) {
            output(near + one, "ended");
            output(at + one, "no room");
        }
        output("for(i=0;i<275;i++)[];x=function(){}", "ended");
        output("for(i=0;i<276;i++)[];x=function(){}", "no room");
        output("function f(){}for(i=0;i<274;i++)[];f()", "ended");
        output("function f(){}for(i=0;i<275;i++)[];f()", "no room");
        output("function f(){}for(i=0;i<273;i++)[];new f", "ended");
        output("function f(){}for(i=0;i<274;i++)[];new f", "no room");
        output("for(i=0;i<277;i++)[];print(1);''+i;isNaN(5);String(6);o=Object.prototype;o.x=1;for(k in o)print(k)", "1/constructor/hasOwnProperty/x/ended");
        Kit.check("objects that are no more reached count, too", Kit.output("for(i=0;i<400;i++)a=[]"), "no room");
    }

    private static int properties(ScriptTypes x) {
        int sum = 0;
        for (int o = 0; o < x.count(8); o++) {
            sum += x.object(o, 3);
        }
        return sum;
    }

    private static void propertyRoom() {
        Kit.sentence("3,000 that are there of all objects together at most");
        // 32 are there at first, and i, o and j
        String fill = "o=j=0;for(i=0;i<29;i++){o={};for(j=0;j<100;j++)o[j]=1}o={};for(j=0;j<64;j++)o[j]=1;";
        ScriptTypes one = Kit.run(fill);
        Kit.check("2,999", Kit.output(one) + " " + properties(one), "ended 2999");
        ScriptTypes full = Kit.run(fill + "o[64]=1");
        Kit.check("3,000", Kit.output(full) + " " + properties(full), "ended 3000");
        ScriptTypes more = Kit.run(fill + "o[64]=1;o[65]=1");
        Kit.check("one more", Kit.output(more) + " " + properties(more), "no room 3000");
        String at = fill + "o.x=1;";
        for (String text : new String[] {"o.y=1", "a=1", "[]", "Array()", "x=function(){}", "print.p=1", "new TypeError(1)", "for(k in o);"}) {
            output(at + text, "no room");
            output(at + "delete o.x;delete o[0];delete o[1];delete o[2];" + text, "ended");
        }
        for (String text : new String[] {"o.x=2", "i=5", "delete o.x;o.x=1", "delete o.x;o[70]=1", "delete o.x;z=1", "({})", "(5).x=1", "'s'.x=1", "print(1)", "Error()", "for(i in o);"}) {
            output(at + text, text.startsWith("print") ? "1/ended" : "ended");
        }
        output(at + "delete o.x;delete o.y;o.x=1;o.y=1", "no room");
        output(fill + "[]", "ended");
        output(fill + "[];[]", "no room");
        String scopes = "function f(a,b){}" + fill.replace("j<64", "j<60");
        output(scopes + "f()", "ended");
        output(scopes + "o[60]=1;f()", "no room");
        ScriptTypes many = Kit.run("o={};for(i=0;i<4000;i++){o.p=1;delete o.p}");
        Kit.check("those that went are none", Kit.output(many) + " " + properties(many), "ended 34");
    }

    private static void stringRoom() {
        Kit.sentence("STRINGS that are made are at most 400 unlike ones, the NAMES among them.");
        // 32 names: those that are always there, and i
        ScriptTypes full = Kit.run("for(i=0;i<368;i++)''+i");
        Kit.check("400", Kit.output(full) + " " + full.count(2) + " " + full.count(9), "ended 32 400");
        ScriptTypes more = Kit.run("for(i=0;i<369;i++)''+i");
        Kit.check("one more", Kit.output(more) + " " + more.count(9), "no room 400");
        output("for(i=0;i<367;i++)''+i;i='i'", "ended");
        String at = "for(i=0;i<366;i++)''+i;o={};";
        Kit.check("names in it", Kit.script(at).count(2), 33);
        output(at + "''+366", "ended");
        output(at + "''+366;''+367", "no room");
        String full2 = at + "''+366;";
        for (String text : new String[] {"''+-1", "print(-1)", "String(-1)", "o[-1]", "o[-1]=1", "delete o[-1]", "-1 in o", "'i'+'o'", "'i'+1+'i'",
            "Error(-1)", "o.hasOwnProperty(-1)", "(5)[-1]", "'i'[-1]"}) {
            output(full2 + text, "no room");
        }
        for (String text : new String[] {"''+5", "print(7)", "String(365)", "o[5]", "o[5]=1", "delete o[5]", "5 in o", "'i'+''", "'o'.charAt(0)", "'o'.charAt(5)", "o.hasOwnProperty(3)",
            "(5)[6]", "[7]", "typeof o", "''+null", "''+{}", "''+true", "isNaN(5)", "-'5'", "1+2", "''+undefined+''", "'3'+'6'+'6'"}) {
            output(full2 + text, text.startsWith("print") ? "7/ended" : "ended");
        }
        output(full2 + "null[-1]", "no room");
        output("for(i=0;i<365;i++)''+i;o={};''+365;try{null[5]}catch(e){print(5)}", "5/ended");
        output("for(i=0;i<365;i++)''+i;o={};''+365;try{null[-1]}catch(e){print(5)}", "no room");
    }

    private static void roomLeft() {
        Kit.sentence("(A step in which it stops by NO ROOM leaves what is left to look at as it was ahead of the step, but objects, strings and properties that it has made.)");
        ScriptTypes a = Kit.run("function f(n){try{for(k in {p:1})[n,n<3?f(n+1):g()]}finally{}}f(0);function g(){for(;;)[]}");
        Kit.check("frames, place, stack and tries", Kit.output(a) + " " + a.count(11) + " " + Kit.instruction(a, a.frame(0, 1)) + " " + a.frame(0, 2) + " " + a.frame(1, 2) + " " + a.frame(1, 4)
            + " " + a.value(1, 0, 0) + " " + a.count(8), "no room 6 ARRAY" + a.instruction(a.frame(0, 1), 1) + " 0 4 1 8 300");
        ScriptTypes b = Kit.run("for(i=0;i<366;i++)''+i;o={};''+366;o[-5]=7");
        Kit.check("a string", Kit.output(b) + " " + Kit.instruction(b, b.frame(0, 1)) + " " + b.frame(0, 2) + " " + b.value(0, 1, 1) + " " + b.value(0, 2, 1), "no room PUT 3 -5 7");
        ScriptTypes c = Kit.run("for(i=0;i<276;i++)[];x=function(){}");
        Kit.check("the function's object is made", c.count(8) + " " + c.object(299, 4) + " " + c.object(299, 3) + " " + c.frame(0, 2), "300 1 0 0");
        ScriptTypes d = Kit.run("for(i=0;i<277;i++)[];Error(2)");
        Kit.check("native calls", Kit.output(d) + " " + d.count(8) + " " + d.frame(0, 2), "no room 300 3");
        ScriptTypes e = Kit.run("for(i=0;i<277;i++)[];try{5()}finally{print(1)}");
        Kit.check("an ERROR that finds no room is none", Kit.output(e) + " " + e.frame(0, 4) + " " + e.frame(0, 2) + " " + Kit.instruction(e, e.frame(0, 1)), "no room 1 2 CALL0");
        Kit.check("nothing is uncaught", e.uncaught(0) + " " + e.uncaught(1), "-1 -1");
        Kit.check("frames are there still", e.count(11) + " " + e.frame(0, 0) + " " + Kit.outcome(() -> e.run(1)), "1 0 IllegalStateException");
        int steps = e.count(7);
        e.begin();
        e.run(1);
        Kit.check("it can begin anew", e.count(7) + " " + e.count(8) + " " + (steps > 1000), "1 23 true");
    }

    private static void globals() {
        Kit.sentence("GLOBAL: object 0's property b (its own; PROTOs are not looked at); if it has none: ERROR ReferenceError. TYPE GLOBAL: typeof that, \"undefined\" without one.");
        for (String name : new String[] {"constructor", "hasOwnProperty", "q", "call", "prototype", "length"}) {
            output("try{" + name + "}catch(e){print(e.name)}print(typeof " + name + ")", "ReferenceError/undefined/ended");
        }
        output("print(typeof print);print(typeof Object);x=1;print(typeof x);x=undefined;print(typeof x);print(x)", "function/function/number/undefined/undefined/ended");
        output("var y;print(y);print(typeof y);constructor=5;print(constructor);print({}.constructor===Object)", "undefined/undefined/5/true/ended");
        output("try{q=r}catch(e){print(typeof q)}q=1;print(q)", "undefined/1/ended");
        output("try{q+=1}catch(e){print(e.name)}try{q++}catch(e){print(e.name)}try{q()}catch(e){print(e.name)}", "ReferenceError/ReferenceError/ReferenceError/ended");
        output("print(a=b=7);print(a+b)", "7/14/ended");
        ScriptTypes again = Kit.run("v=print;print=5;v(print);v(typeof print);Object=print;v(Object)");
        Kit.check("a global that was there is set", Kit.output(again) + " " + again.object(0, 3), "5/number/5/ended 10");
        output("q", "uncaught #23");
        output("Object.prototype.z=5;try{z}catch(e){print(e.name)}print(typeof z)", "ReferenceError/undefined/ended");
    }

    private static void textsAhead() {
        Kit.sentence("here, with PUT, DELETE and in, the text of p, or of in's first one, is made ahead of all else");
        String[] made = {"null[12]", "undefined[12]", "(5)[12]", "'s'[12]", "({})[12]", "null[12]=1", "(5)[12]=1", "delete null[12]", "delete (5)[12]", "12 in 5", "12 in null", "12 in {}"};
        for (String text : made) {
            ScriptTypes x = Kit.run("try{" + text + "}catch(e){}");
            Kit.check("text made by " + text, x.count(9) - x.count(2) + " " + Kit.string(x, x.count(2)), "1 12");
        }
        Kit.check("no texts of others", made("isNaN(12)") + " " + made("try{12 instanceof 5}catch(e){}") + " " + made("try{(12)()}catch(e){}")
            + " " + made("12==13") + " " + made("for(k in 12);") + " " + made("Object(12)") + " " + made("try{throw 12}catch(e){}"), "0 0 0 0 0 0 0");
    }

    private static void gets() {
        Kit.sentence("TO READ the text of p: of an object: its property of that name, else its PROTO's, and so on; undefined, if none has it.");
        prints("{a:1}.a", "1");
        prints("{a:1}['a']", "1");
        prints("{1:2}[1]", "2");
        prints("{'-1':2}[-1]", "2");
        prints("{undefined:3}[undefined]", "3");
        prints("{null:3}[null]", "3");
        prints("{true:3}[true]", "3");
        prints("{NaN:3}[NaN]", "3");
        prints("{'[object]':3}[{}]", "3");
        prints("{'':3}['']", "3");
        prints("{}.a", "undefined");
        prints("[].push===Array.prototype.push", "true");
        prints("[].hasOwnProperty===Object.prototype.hasOwnProperty", "true");
        output("function A(){}function B(){}A.prototype.p=1;B.prototype=new A;o=new B;print(o.p);B.prototype.p=2;print(o.p);o.p=3;print(o.p);o.p=undefined;print(o.p)",
            "1/2/3/undefined/ended");
        Kit.sentence("Of a string: length is how many signs it has, else read from object 4 on. Of undefined and null: ERROR TypeError. Of others undefined.");
        each("0", "''.length");
        each("3", "'abc'.length", "'\\n\\t\\''.length");
        each("undefined", "'abc'[0]", "'abc'.x", "true.x", "(5).x", "NaN.x", "(5).length", "true.length", "true.constructor", "(5).hasOwnProperty", "false.charAt");
        prints("'a'.charAt===String.prototype.charAt", "true");
        prints("'a'.constructor===String", "true");
        prints("'a'.hasOwnProperty===Object.prototype.hasOwnProperty", "true");
        output("String.prototype.length=9;String.prototype.p=8;print('ab'.length+'ab'.p)", "10/ended");
        for (String text : new String[] {"null.x", "undefined.x", "null.length", "({}).x.y", "null[null]", "null.x()", "(void 0)[0]"}) {
            output("try{" + text + "}catch(e){print(e.name)}", "TypeError/ended");
        }
    }

    private static void puts() {
        Kit.sentence("PUT o, p, v: the object's own property becomes v (or comes behind the others)");
        output("o={a:1,b:2};o.c=3;o.a=4;for(k in o)print(k+o[k])", "a4/b2/c3/ended");
        output("o={a:1,b:2};delete o.a;o.a=5;for(k in o)print(k+o[k])", "b2/a5/ended");
        output("o={a:1,a:2};for(k in o)print(k+o[k])", "a2/ended");
        output("function F(){}F.prototype.p=1;o=new F;o.p=2;print(F.prototype.p+o.p);delete o.p;print(o.p)", "3/1/ended");
        Kit.sentence("but length of an array stays");
        output("a=[1,2];print(a.length=0);print(a.length);a['length']=7;print(a.length);a.length++;print(a.length)", "0/2/2/2/ended");
        output("o={length:1};o.length=5;print(o.length);function f(){}f.length=6;print(f.length)", "5/6/ended");
        output("function F(){}F.prototype=[];o=new F;print(o.length);o[5]=1;print(o.length);o.length=9;print(o.length);print(F.prototype.length)", "0/0/9/0/ended");
        Kit.sentence("of undefined and null ERROR TypeError; of others nothing happens; v stays");
        for (String text : new String[] {"null.x=1", "undefined.x=1", "null[0]=1", "({}).x.y=1", "null.x+=1", "null.x++"}) {
            output("try{" + text + "}catch(e){print(e.name)}", "TypeError/ended");
        }
        output("print((5).x=1);print((5).x);print('s'.x=2);print('s'.x);print(true.x=3);print(NaN.x=4);print('abc'.length=9);print('abc'.length)",
            "1/undefined/2/undefined/3/4/9/3/ended");
        output("print({}.x=5);print([].x=6)", "5/6/ended");
    }

    private static void indices() {
        Kit.sentence("of an array, if the text of p is an INDEX (0 .. 99, as ints are written) that is not below length, length becomes 1 more than that INDEX");
        String[][] keys = {{"0", "1"}, {"1", "2"}, {"9", "10"}, {"10", "11"}, {"98", "99"}, {"99", "100"}, {"100", "0"}, {"101", "0"}, {"-1", "0"}, {"'0'", "1"}, {"'99'", "100"}, {"'00'", "0"},
            {"'05'", "0"}, {"'099'", "0"}, {"'100'", "0"}, {"'-0'", "0"}, {"' 5'", "0"}, {"'5 '", "0"}, {"'5a'", "0"}, {"''", "0"}, {"'+5'", "0"}, {"true", "0"}, {"null", "0"}, {"1000", "0"},
            {"2147483647", "0"}, {"-99", "0"}, {"'a'", "0"}, {"{}", "0"}, {"NaN", "0"}, {"'9'", "10"}, {"'::'", "0"}, {"'9:'", "0"}, {"'/5'", "0"}};
        for (String[] key : keys) {
            output("a=[];a[" + key[0] + "]=7;print(a.length);print(a[" + key[0] + "])", key[1] + "/7/ended");
        }
        output("a=[];a[5]=1;a[3]=1;print(a.length);a[5]=2;print(a.length);a[6]=1;print(a.length);a[4]=1;print(a.length)", "6/6/7/7/ended");
        output("a=[];a[0]=1;a[0]=2;print(a.length);a[1]=3;print(a.length)", "1/2/ended");
        output("o={};o[5]=1;print(o.length);function f(){}f[5]=1;print(f.length)", "undefined/undefined/ended");
        output("a=[];for(i=0;i<103;i++)a[i]=i;print(a.length);print(a[99]+a[100]+a[102])", "100/301/ended");
        prints("[1,2,3].length", "3");
        prints("[].length", "0");
        prints("[1,1,1,1,1,1,1,1,1,1,1,1,1,1,1,1].length", "16");
    }

    private static void deletes() {
        Kit.sentence("DELETE o, p: the own property goes: true; false for length of an array (it stays); undefined, null as above; others true");
        output("o={a:1,b:2};print(delete o.a);print(o.a);print(delete o.a);print(o.b);print('a' in o)", "true/undefined/true/2/false/ended");
        output("a=[1];print(delete a.length);print(a.length);print(delete a[0]);print(a.length);print(a[0]);print(delete a['length'])", "false/1/true/1/undefined/false/ended");
        output("o={length:1};print(delete o.length);print(o.length);function f(){}f.length=1;print(delete f.length);print(f.length)", "true/undefined/true/undefined/ended");
        output("function F(){}F.prototype={p:1};o=new F;print(delete o.p);print(o.p);F.prototype=[];o=new F;print(delete o.length);print(o.length)", "true/1/true/0/ended");
        output("print(delete (5).x);print(delete 's'.length);print('s'.length);print(delete true.x);print(delete NaN.x)", "true/true/1/true/true/ended");
        for (String text : new String[] {"delete null.x", "delete undefined.x", "delete null[0]", "delete ({}).x.y"}) {
            output("try{" + text + "}catch(e){print(e.name)}", "TypeError/ended");
        }
        output("print(delete Object.prototype.hasOwnProperty);print({}.hasOwnProperty);print(delete print.call);print(typeof print.call)", "true/undefined/true/function/ended");
    }

    private static void ins() {
        Kit.sentence("in: the second one must be an object (ERROR TypeError): whether the text of the first one can be read from it (some object on the way has it)");
        each("true", "'a' in {a:1}", "'a' in {a:undefined}", "1 in {1:1}", "0 in [5]", "'0' in [5]", "'length' in []", "'push' in []", "'constructor' in {}", "undefined in {undefined:1}",
            "{} in {'[object]':1}", "'call' in print", "'prototype' in Object", "'prototype' in function(){}", "'name' in Error()", "null in {null:1}", "NaN in {NaN:1}", "true in {true:1}");
        each("false", "'b' in {a:1}", "1 in [5]", "-1 in [5]", "'length' in {}", "'push' in {}", "'prototype' in print", "'message' in Error()", "'' in {}", "'A' in {a:1}", "'a ' in {a:1}");
        for (String value : new String[] {"5", "'abc'", "null", "undefined", "true", "NaN", "''"}) {
            output("try{'length' in " + value + "}catch(e){print(e.name)}", "TypeError/ended");
        }
        output("o={p:1};delete o.p;print('p' in o);Object.prototype.p=2;print('p' in o)", "false/true/ended");
    }

    private static void instances() {
        Kit.sentence("instanceof: the second one must be a function, and its prototype (read) an object (ERROR TypeError, in both cases, whatever the first one is)");
        for (String first : new String[] {"5", "'s'", "null", "undefined", "{}", "print"}) {
            for (String second : new String[] {"5", "'s'", "null", "undefined", "true", "NaN", "{}", "[]", "print", "isNaN", "[].push", "print.call"}) {
                output("try{print(" + first + " instanceof " + second + ")}catch(e){print(e.name)}", "TypeError/ended");
            }
            for (String prototype : new String[] {"5", "null", "undefined", "'s'", "true", "NaN"}) {
                output("function F(){}F.prototype=" + prototype + ";try{print(" + first + " instanceof F)}catch(e){print(e.name)}", "TypeError/ended");
            }
        }
        Kit.sentence("whether that is the PROTO of the first one, or of that, and so on (false if it is no object)");
        each("true", "{} instanceof Object", "[] instanceof Array", "[] instanceof Object", "print instanceof Object", "Error() instanceof Error", "TypeError() instanceof Error",
            "TypeError() instanceof TypeError", "function(){} instanceof Object");
        each("false", "{} instanceof Array", "5 instanceof Object", "'s' instanceof String", "null instanceof Object", "undefined instanceof Object", "Error() instanceof TypeError",
            "TypeError() instanceof RangeError", "Object.prototype instanceof Object", "true instanceof Object", "Array.prototype instanceof Array", "NaN instanceof Object");
        output("function F(){}o=new F;print(o instanceof F);print(F.prototype instanceof F);F.prototype={};print(o instanceof F);print(new F instanceof F)", "true/false/false/true/ended");
        output("function F(){}function G(){}G.prototype=new F;print(new G instanceof F);print(new F instanceof G);F.prototype=print;print(print instanceof F)", "true/false/false/ended");
        output("print.prototype=Object.prototype;print({} instanceof print);Object.prototype.prototype={};print(5 instanceof isNaN)", "true/false/ended");
    }

    private static void calls() {
        Kit.sentence("CALL a: f is no function: ERROR TypeError");
        for (String value : new String[] {"5", "'s'", "null", "undefined", "true", "NaN", "{}", "[]", "Error()", "Object.prototype"}) {
            output("f=" + value + ";try{f()}catch(e){print(e.name)}o={f:f};try{o.f(1,2)}catch(e){print(e.name)}", "TypeError/TypeError/ended");
        }
        output("try{({}).f()}catch(e){print(e.name)}try{null.f()}catch(e){print(e.name)}", "TypeError/TypeError/ended");
        Kit.sentence("a number is no object, also if an object has that number");
        for (String text : new String[] {"(10)()", "new 10", "({}) instanceof 10", "5 instanceof 14", "'print' in 0", "({}).hasOwnProperty.call(0,'print')", "[].push.call(23,1)", "[].pop.call(23)",
            "print.call.call(9,1)", "(9).call(0,1)", "'a'.charAt.call(0)", "a=[];a.push.call(23)", "5 instanceof {prototype:{}}", "({}) instanceof {prototype:Object.prototype}"}) {
            output("try{" + text + "}catch(e){print(e.name)}", "TypeError/ended");
        }
        output("print((0).print);print((10).prototype);(0).x=1;print(typeof x);print(delete (0).print);print(typeof print);for(k in 0)print(k);for(k in 23)print(k);print((4).charAt)",
            "undefined/undefined/undefined/true/function/undefined/ended");
        output("function F(){}F.prototype=1;o=new F;print(o.constructor===Object);print(1=={});print({}==23);print(print==9);print(typeof 9)", "true/false/false/false/number/ended");
        Kit.sentence("(the caller's place is the one behind the CALL from then on)");
        ScriptTypes x = Kit.script("function f(){}f(1,2)");
        x.begin();
        while (x.count(11) == 1) {
            x.run(1);
        }
        Kit.check("frames", x.frame(0, 0) + " " + x.frame(0, 1) + " " + x.frame(1, 1) + " " + Kit.instruction(x, x.frame(1, 1) - 1) + " " + x.frame(1, 2) + " " + x.frame(0, 2), "1 11 8 CALL2 0 0");
        Kit.sentence("RETURN: the frame goes, the value comes to the caller's stack in place of what CALL took");
        output("function f(){return 1}function g(){}print(f());print(g());print([f(),f()+f()].length);print(f(f(f())))", "1/undefined/2/1/ended");
    }

    private static void frames() {
        Kit.sentence("(24 at most: ERROR RangeError if there would be more)");
        output("function r(n){return n?r(n-1):'in'}print(r(22));try{print(r(23))}catch(e){print(e.name)}print(r(22))", "in/RangeError/in/ended");
        output("function r(n){n?r(n-1):print(n)}r(22);r(23)", "0/uncaught #71");
        ScriptTypes x = Kit.script("function r(){r()}r()");
        x.begin();
        int most = 0;
        while (x.count(6) == 1) {
            x.run(1);
            most = Math.max(most, x.count(11));
        }
        Kit.check("most frames", most + " " + Kit.output(x) + " " + x.object(x.uncaught(1), 1) + " " + x.count(8), "24 uncaught #48 8 49");
        output("function r(n){return n?r.call(0,n-1):'in'}print(r(22));try{print(r(23))}catch(e){print(e.name)}", "in/RangeError/ended");
        output("function R(n){if(n)new R(n-1)}new R(22);print(1);try{new R(23)}catch(e){print(e.name)}", "1/RangeError/ended");
        output("function r(n){return n?r(n-1):print(1)}r(22)", "1/ended");
        output("function r(n){try{r(n+1)}catch(e){print(n);throw 0}}try{r(1)}catch(e){print(e)}", "23/22/21/20/19/18/17/16/15/14/13/12/11/10/9/8/7/6/5/4/3/2/1/0/ended");
    }

    private static void variables() {
        Kit.sentence("for each variable: a name that was there is passed over; a parameter that has no argument, and others, are undefined");
        output("function f(a,b,c){print(a);print(b);print(c)}f();f(1,2);f(1,2,3,4)", "undefined/undefined/undefined/1/2/undefined/1/2/3/ended");
        output("function f(a,b,c,d,e,f,g,h){print(h);print(a)}f(1,2,3,4,5,6,7,8);f(1,2,3,4,5,6,7)", "8/1/undefined/1/ended");
        output("function f(a){var a;print(a);var b;print(b);b=a;print(b)}f(5)", "5/undefined/5/ended");
        output("function f(){print(typeof g);function g(){}print(g.x);var g;print(typeof g)}f()", "function/undefined/function/ended");
        output("function f(a){var b;print(b)}f(1,2);x=function g(a){print(typeof g)};x(1,2);function h(){var b;print(b)}h(7)", "undefined/function/undefined/ended");
        Kit.sentence("its own name, if no parameter is called so, is f, also when a var has it");
        output("x=function f(){return f};print(x()===x)", "true/ended");
        output("x=function f(f){return f};print(x());print(x(5))", "undefined/5/ended");
        output("x=function f(){var f;return f};print(x()===x)", "true/ended");
        output("x=function f(){var f=1;return f};print(x());print(typeof f)", "1/undefined/ended");
        output("x=function f(){function f(){return 2}return f()};print(x())", "2/ended");
        output("function f(){var f;return f}print(f())", "undefined/ended");
        output("x=function f(n){return n?f(n-1):f===x};print(x(3));y=x;x=0;print(y(2))", "true/false/ended");
        Kit.sentence("its LINK is that of f");
        output("function f(a){return function(b){return function(c){return a+b*c}}}print(f(1)(2)(3));g=f(4);print(g(5)(6)+g(1)(1))", "7/39/ended");
        output("function f(){var n=0;return {up:function(){return ++n},get:function(){return n}}}a=f();b=f();a.up();a.up();b.up();print(a.get()+'|'+b.get())", "2|1/ended");
    }

    private static void news() {
        Kit.sentence("NEW a: no function, or a native other than 10, 11, 12, 14 to 17: ERROR TypeError");
        for (String value : new String[] {"5", "'s'", "null", "undefined", "true", "NaN", "{}", "[]", "print", "isNaN", "[].push", "[].pop", "print.call", "{}.hasOwnProperty", "'s'.charAt"}) {
            output("F=" + value + ";try{new F}catch(e){print(e.name)}try{new F(1)}catch(e){print(e.name)}", "TypeError/TypeError/ended");
        }
        Kit.sentence("a native as CALL does");
        output("print(typeof new Object);print(new Array().length);print(new String(5));print(typeof new String(5));print(new Error('m').message);print(new TypeError().name);"
            + "print(new ReferenceError(1).message);print(new RangeError().name);print(typeof new String)", "object/0/5/string/m/TypeError/1/RangeError/string/ended");
        Kit.check("natives make no object beside", Kit.run("new Object;new Array;new String;new Error").count(8), 26);
        Kit.sentence("an object whose PROTO is what prototype reads from f, if that is an object, else 1");
        for (String prototype : new String[] {"5", "null", "undefined", "'s'", "true", "NaN"}) {
            ScriptTypes x = Kit.run("function F(){}F.prototype=" + prototype + ";o=new F");
            Kit.check("PROTO of " + prototype, x.object(25, 1), 1);
        }
        ScriptTypes x = Kit.run("function F(){}o=new F;F.prototype=print;p=new F;delete F.prototype;q=new F");
        Kit.check("PROTOs", x.object(25, 1) + " " + x.object(27, 1) + " " + x.object(29, 1), "24 9 1");
        Kit.sentence("(made ahead of what the call makes, and of RangeError)");
        ScriptTypes y = Kit.run("function R(){new R}R()");
        Kit.check("objects at the 24th frame", Kit.output(y) + " " + y.object(y.count(8) - 1, 1) + " " + y.object(y.count(8) - 2, 0) + " " + y.object(y.count(8) - 3, 4), "uncaught #71 8 35 3");
        Kit.sentence("in the end the object, if what comes back is none");
        for (String value : new String[] {"5", "'s'", "null", "undefined", "true", "NaN", ""}) {
            output("function F(){this.a=1;return " + value + "}print(new F().a)", "1/ended");
        }
        for (String value : new String[] {"{a:2}", "Object.prototype", "print", "[]", "function(){}"}) {
            output("function F(){this.a=1;return " + value + "}print(new F().a)", (value.startsWith("{") ? "2" : "undefined") + "/ended");
        }
        output("function F(a,b){this.a=a;this.b=b}o=new F(1);print(o.a+'|'+o.b);o=new F(1,2,3);print(o.a+o.b)", "1|undefined/3/ended");
    }

    private static String lines(int n) {
        StringBuilder s = new StringBuilder();
        for (int i = 0; i < n; i++) {
            s.append(i).append('/');
        }
        return s.toString();
    }

    private static void prints() {
        Kit.sentence("print: the text of the first one is PRINTED (the first 100 are kept); undefined");
        output("for(i=0;i<99;i++)print(i)", lines(99) + "ended");
        output("for(i=0;i<100;i++)print(i)", lines(100) + "ended");
        output("for(i=0;i<101;i++)print(i)", lines(100) + "ended");
        output("for(i=0;i<200;i++)print(i)", lines(100) + "ended");
        ScriptTypes x = Kit.run("for(i=0;i<101;i++)print(i)");
        Kit.check("line 99 and 100", x.count(10) + " " + Kit.printedLine(x, 99) + " " + x.printed(100, 0) + " " + x.printed(100, -1) + " " + x.count(9), "100 99 -1 -1 " + (x.count(2) + 101));
        output("print(print());print(1,2)", "undefined/undefined/1/ended");
        x.begin();
        Kit.check("none are kept when it begins anew", x.count(10) + " " + x.printed(0, 0), "0 -1");
    }

    private static void makers() {
        Kit.sentence("Natives, with this and arguments (undefined, where there is none)");
        output("o=Object({a:1});print(o.a);print(Array(5).length);print(Array(1,2)[0]);print(Object()===Object())", "undefined/0/undefined/false/ended");
        output("print(String()+'|'+String(undefined)+'|'+String(null)+'|'+String(-5)+'|'+String({})+'|'+String('s')+'|'+String(1,2))", "|undefined|null|-5|[object]|s|1/ended");
        output("print(isNaN());print(isNaN(undefined));print(isNaN(5));print(isNaN('5'));print(isNaN('x'));print(isNaN(null));print(isNaN({}));print(isNaN(''));print(isNaN(true));print(isNaN(NaN))",
            "true/true/false/false/true/false/true/false/false/true/ended");
        Kit.sentence("14 to 17: a new object with PROTO 5 to 8, and, if there is an argument, message: its text");
        for (String name : new String[] {"Error", "TypeError", "ReferenceError", "RangeError"}) {
            output("e=" + name + "();print(e.name);print(e.message);print(e.hasOwnProperty('message'));print(e instanceof " + name + ")", name + "/undefined/false/true/ended");
            output("e=" + name + "(undefined);print(e.message);print(e.hasOwnProperty('message'));e=" + name + "(12,13);print(e.message+1)", "undefined/true/121/ended");
        }
        Kit.check("texts that are made", made("Error(12)") + " " + made("Error()") + " " + made("String(12)") + " " + made("isNaN(12)") + " " + made("print(12)") + " " + made("Object(12)"), "1 0 1 0 1 0");
    }

    private static void pushes() {
        Kit.sentence("push: this must be an array (ERROR TypeError)");
        for (String value : new String[] {"5", "'s'", "null", "undefined", "{}", "print", "true", "{length:0}", "Array.prototype"}) {
            output("try{[].push.call(" + value + ",1)}catch(e){print(e.name)}try{[].pop.call(" + value + ")}catch(e){print(e.name)}", "TypeError/TypeError/ended");
        }
        output("p=[].push;try{p(1)}catch(e){print(e.name)}p=[].pop;try{p()}catch(e){print(e.name)}", "TypeError/TypeError/ended");
        Kit.sentence("the property of the text of length becomes the argument, length 1 more (or stays, if it is 100): what length is then");
        output("a=[];print(a.push(7));print(a[0]+a.length);print(a.push());print(a[1]);print(a.push(8,9));print(a[2]+a.length)", "1/8/2/undefined/3/11/ended");
        for (int length = 97; length <= 99; length++) {
            output("a=[];a[" + (length - 1) + "]=0;print(a.push('x'));print(a.length);print(a[" + length + "])", (length + 1) + "/" + (length + 1) + "/x/ended");
        }
        output("a=[];a[99]=0;print(a.push('x'));print(a.length);print(a[100]);print(a.push('y'));print(a[100]);print(a[101])", "100/100/x/100/y/undefined/ended");
        output("a=[];for(i=0;i<105;i++)if(a.push(i)!==(i<100?i+1:100))print(i);print(a.length+a[100])", "204/ended");
        output("a=[];a[5]=1;delete a[5];print(a.push(2));print(a[6])", "7/2/ended");
        Kit.check("the text that is made", made("[].push(1);'0'") + " " + made("[].push(1)") + " " + made("a=[1,2];a.push(3)") + " " + made("Object.prototype.p=[].push"), "0 1 3 0");
    }

    private static void pops() {
        Kit.sentence("pop: if length is 0 undefined; else the property of the text of length - 1 goes, length is 1 less: what it was (undefined if there was none)");
        output("a=[];print(a.pop());print(a.length);a=[7];print(a.pop());print(a.length);print(a[0]);print(0 in a);print(a.pop());print(a.length)",
            "undefined/0/7/0/undefined/false/undefined/0/ended");
        output("a=[1,2,3];print(a.pop(9));print(a.length);print(a.pop()+a.pop());print(a.length)", "3/2/3/0/ended");
        output("a=[];a[99]='x';print(a.length);print(a.pop());print(a.length);print(a.pop());print(a.length)", "100/x/99/undefined/98/ended");
        output("a=[];a[99]=0;a.push('x');print(a.pop());print(a.length);print(a[100])", "0/99/x/ended");
        output("a=[1];delete a[0];print(a.pop());print(a.length)", "undefined/0/ended");
        output("a=[1];Array.prototype[0]='p';delete a[0];print(a[0]);print(a.pop());print(a.length)", "p/undefined/0/ended");
        Kit.check("the text that is made", made("[].pop()") + " " + made("a=[];a[12]=1;a.pop();a.pop()") + " " + made("a=[1];a.pop()"), "0 2 1");
    }

    private static void callNative() {
        Kit.sentence("call: this must be a function (ERROR TypeError): as CALL of that with the first argument as this and the others as arguments");
        for (String value : new String[] {"5", "'s'", "null", "undefined", "{}", "[]", "true"}) {
            output("c=print.call;try{c.call(" + value + ",1)}catch(e){print(e.name)}", "TypeError/ended");
        }
        output("c=print.call;try{c()}catch(e){print(e.name)}try{c(1)}catch(e){print(e.name)}try{print.call.call()}catch(e){print(e.name)}", "TypeError/TypeError/TypeError/ended");
        output("function f(a,b){print(this);print(a);print(b)}f.call();f.call(1);f.call(1,2);f.call(1,2,3);f.call(1,2,3,4)",
            "undefined/undefined/undefined/1/undefined/undefined/1/2/undefined/1/2/3/1/2/3/ended");
        output("function f(a,b,c,d,e,g,h){print(this+'|'+a+'|'+h)}f.call(1,2,3,4,5,6,7,8);f.call(1,2,3,4,5,6,7)", "1|2|8/1|2|undefined/ended");
        output("print.call(0,5);print.call.call(print,0,6);print.call.call.call(print,0,7);print.call.call.call.call(print,0,8)", "5/6/7/8/ended");
        output("print(String.call(1));print(String.call(1,2));print([].push.call([1],2));print('x'.charAt.call('abc',1))", "/2/2/b/ended");
        Kit.sentence("(the frame's number, and this native again, likewise)");
        output("function r(n){return n?r.call.call(r,0,n-1):'in'}print(r(22));try{print(r(23))}catch(e){print(e.name)}", "in/RangeError/ended");
        ScriptTypes x = Kit.script("function f(){}f.call(5,1)");
        x.begin();
        while (x.count(11) == 1) {
            x.run(1);
        }
        Kit.check("call has no frame of its own", x.count(11) + " " + x.frame(0, 0) + " " + x.frame(1, 2) + " " + x.value(0, -1, 1), "2 1 0 5");
    }

    private static void ownProperties() {
        Kit.sentence("hasOwnProperty: this must be an object (a string is none, functions and arrays are; ERROR TypeError, asked ahead of making the text, which without an argument is undefined)");
        String h = "h={}.hasOwnProperty;";
        for (String value : new String[] {"5", "'s'", "null", "undefined", "true", "NaN"}) {
            output(h + "try{h.call(" + value + ",'length')}catch(e){print(e.name)}", "TypeError/ended");
            Kit.check("no text with " + value, made(h + "try{h.call(" + value + ",12)}catch(e){}"), 0);
        }
        Kit.check("texts that are made", made("({}).hasOwnProperty(12)") + " " + made("({}).hasOwnProperty()"), "1 0");
        each("true", "{a:1}.hasOwnProperty('a')", "{a:undefined}.hasOwnProperty('a')", "[].hasOwnProperty('length')", "[5].hasOwnProperty(0)", "Object.hasOwnProperty('prototype')",
            "{undefined:1}.hasOwnProperty()", "{1:1}.hasOwnProperty(1)", "Error(1).hasOwnProperty('message')", "{'[object]':1}.hasOwnProperty({})", "{null:1}.hasOwnProperty(null)");
        each("false", "{a:1}.hasOwnProperty('b')", "{}.hasOwnProperty('constructor')", "[].hasOwnProperty('push')", "[5].hasOwnProperty(1)", "print.hasOwnProperty('call')", "{}.hasOwnProperty()",
            "Error().hasOwnProperty('message')", "Error().hasOwnProperty('name')", "print.hasOwnProperty('length')");
        output("o={a:1};delete o.a;print(o.hasOwnProperty('a'))", "false/ended");
    }

    private static void signsOfStrings() {
        Kit.sentence("charAt: this must be a string (ERROR TypeError): the sign at the number of the first one (NaN as 0), the empty one if there is none");
        for (String value : new String[] {"5", "{}", "null", "undefined", "true", "NaN", "[]", "print"}) {
            output("try{'a'.charAt.call(" + value + ",0)}catch(e){print(e.name)}", "TypeError/ended");
        }
        each("a", "'abc'.charAt(0)", "'abc'.charAt()", "'abc'.charAt(NaN)", "'abc'.charAt(undefined)", "'abc'.charAt({})", "'abc'.charAt('x')", "'abc'.charAt(null)", "'abc'.charAt('')", "'abc'.charAt(false)");
        each("b", "'abc'.charAt(1)", "'abc'.charAt('1')", "'abc'.charAt(true)", "'abc'.charAt(1,2)");
        each("c", "'abc'.charAt(2)");
        each("", "'abc'.charAt(3)", "'abc'.charAt(-1)", "''.charAt(0)", "''.charAt()", "'abc'.charAt(2147483647)", "'abc'.charAt(-2147483647-1)", "'abc'.charAt(4)", "'abc'.charAt('-1')");
        Kit.check("the sign is made", made("'xyz'.charAt(1)") + " " + made("'xyz'.charAt(3)") + " " + made("'xyz'.charAt(1);'y'") + " " + made("'xyz'.charAt('1')"), "1 0 0 1");
    }

    private static void steps() {
        Kit.sentence("COPY TWO: both on top once more; UNDER: the value on top comes beneath the two below it, too.");
        output("x=5;print(x++);print(x);print(++x);print(x--);print(--x)", "5/6/7/7/5/ended");
        output("x='5';print(typeof x++);print(x);x='5';print(x--+1);x='5';print(++x);x='a';print(x++);print(x)", "number/6/6/6/NaN/NaN/ended");
        output("o={k:5};print(o.k++);print(o.k);print(++o.k);print(o['k']--);print(--o.k);print(o.k+=3);print(o.k-=1)", "5/6/7/7/5/8/7/ended");
        output("o={k:'5'};print(typeof o.k++);print(o.k);o.k='x';print(o.k--);o={};print(o.q++);print(o.q)", "number/6/NaN/NaN/NaN/ended");
        output("function f(a){print(a++);print(a);print(--a);return function(){return a++ + ++a}}g=f(1);print(g());print(g())", "1/2/1/4/8/ended");
        output("n=0;function o(){n++;return {k:1}}o().k++;o().k+=1;++o().k;print(n)", "3/ended");
        output("a=[1,2];i=0;a[i++]+=5;print(a[0]+'|'+a[1]+'|'+i);a[i++]++;print(a[0]+'|'+a[1]+'|'+i)", "6|2|1/6|3|2/ended");
    }

    private static void shortWays() {
        Kit.sentence("AND: if it is not true it stays, and to a; else it goes. OR: the other way round. UNLESS: the value goes; if it is not true, to a.");
        prints("0&&q", "0");
        prints("''&&q", "");
        prints("1&&2", "2");
        prints("1&&0", "0");
        prints("0||2", "2");
        prints("1||q", "1");
        prints("0||''", "");
        prints("NaN||undefined", "undefined");
        prints("1?2:q", "2");
        prints("0?q:3", "3");
        prints("1&&2||q", "2");
        prints("0&&q||4", "4");
        output("a=0&&b();print(a);c=1||d();print(c)", "0/1/ended");
    }

    private static void lists() {
        Kit.sentence("NAMES OF: in place of the value a LIST of its own properties (of an object; length of arrays is left out; of others none).");
        output("for(k in {})print(k);for(k in [])print(k);for(k in {a:1})print(k)", "a/ended");
        output("for(k in [5,6])print(k);a=[];a.length=1;a.x=1;a[3]=1;for(k in a)print(k)", "0/1/x/3/ended");
        output("for(k in {length:1,a:2})print(k);function F(){}for(k in F)print(k);F.length=1;for(k in F)print(k);F.prototype.z=1;for(k in new F)print(k)",
            "length/a/prototype/prototype/length/ended");
        for (String value : new String[] {"5", "'abc'", "null", "undefined", "true", "NaN", "''"}) {
            output("for(k in " + value + ")print(k);print(0)", "0/ended");
        }
        Kit.sentence("NEXT: the name of the next of these that is there still (one that went and came again is another one) comes on the stack; if there is none, the list goes, and to a.");
        output("o={a:1,b:2,c:3};for(k in o){print(k);delete o[k]}for(k in o)print(k)", "a/b/c/ended");
        output("o={a:1,b:2,c:3};for(k in o){print(k);delete o.b;delete o.c}", "a/ended");
        output("o={a:1,b:2,c:3};for(k in o){print(k);delete o.b;o.b=1}", "a/c/ended");
        output("o={a:1,b:2,c:3};for(k in o){print(k);delete o.c;o.c=1}for(k in o)print(k)", "a/b/a/b/c/ended");
        output("o={a:1};for(k in o){print(k);o.b=1;o.c=2}", "a/ended");
        output("k=0;o={a:1};for(k in o){print(k);o.b=1;o.c=2}", "a/ended");
        output("k=0;o={};for(k in o)print(k);o={a:1};for(k in o){print(k);delete o.a;o.a=1;o.b=1}", "a/ended");
        output("k=j=0;o={a:1,b:2};for(k in o){for(j in o)print(k+j);o.c=1}", "aa/ab/ba/bb/bc/ended");
        output("o={a:1,b:2};for(k in o){print(k);o.b=o.b+1}print(o.b)", "a/b/4/ended");
        output("o={a:1,b:2};for(k in o){print(k);o={}}", "a/b/ended");
        output("a=[1,2,3];for(k in a){print(k);a.pop()}", "0/1/ended");
        output("o={a:1,b:2};for(k in o)for(j in o)print(k+j)", "aa/ab/ba/bb/ended");
        ScriptTypes x = Kit.script("o={a:1,b:2,c:3};for(k in o){delete o.b}");
        x.begin();
        String left = "";
        while (x.count(6) == 1) {
            if (Kit.instruction(x, x.frame(0, 1)).startsWith("NEXT")) {
                left += x.value(0, 0, 0) + ":" + x.value(0, 0, 1) + " ";
            }
            x.run(1);
        }
        Kit.check("how many are left that are there still", left, "8:3 8:1 8:0 ");
    }

    private static void thrown() {
        Kit.sentence("ERROR: a new object with the PROTO 6, 7 or 8 is thrown.");
        String[][] errors = {{"null.x", "TypeError", "6"}, {"5()", "TypeError", "6"}, {"new 5", "TypeError", "6"}, {"1 in 2", "TypeError", "6"}, {"1 instanceof 2", "TypeError", "6"},
            {"q", "ReferenceError", "7"}, {"r()", "ReferenceError", "7"}};
        for (String[] error : errors) {
            output("try{" + error[0] + "}catch(e){print(e.name+e.hasOwnProperty('message')+(e instanceof Error))}", error[1] + "falsetrue/ended");
            ScriptTypes x = Kit.run(error[0]);
            Kit.check("PROTO of " + error[0], x.object(x.uncaught(1), 1) + " " + x.object(x.uncaught(1), 3) + " " + x.count(8), error[2] + " 0 24");
        }
        Kit.check("PROTO of RangeError", property8("function r(){r()}r()"), 8);
        Kit.sentence("if the latest frame has an open try: the stack has as many values as it had, and the value; to its place; that try is no more. Else the frame goes, and so on");
        output("function f(){throw 1}function g(){f();print(0)}try{print(g(2,3,4)+5)}catch(e){print(e)}print(6)", "1/6/ended");
        output("for(k in {a:1,b:2})try{print(k);[1,[2,q]]}catch(e){print(e.name)}", "a/ReferenceError/b/ReferenceError/ended");
        output("try{try{throw 1}catch(e){throw e+1}}catch(e){print(e)}", "2/ended");
        output("try{try{throw 1}finally{throw 2}}catch(e){print(e)}", "2/ended");
        output("try{throw 1}catch(e){try{throw 2}catch(e){print(e)}print(e)}", "2/2/ended");
        output("function f(){try{throw 1}finally{return 2}}print(f());while(1)try{throw 3}finally{break}print(4)", "2/4/ended");
        ScriptTypes x = Kit.script("for(k in {a:1})try{[1,2,{z:q}]}catch(e){}");
        x.begin();
        while (x.frame(0, 4) == 0) {
            x.run(1);
        }
        while (x.frame(0, 4) == 1) {
            x.run(1);
        }
        Kit.check("the stack behind a throw", x.frame(0, 2) + " " + x.value(0, 0, 0) + " " + x.value(0, 1, 0) + " " + Kit.instruction(x, x.frame(0, 1)), "2 8 7 SETGLOBAL:e");
    }

    private static int property8(String text) {
        ScriptTypes x = Kit.run(text);
        return x.object(x.uncaught(1), 1);
    }

    private static void stops() {
        Kit.sentence("without frames the machine stops: UNCAUGHT. It stops, too: ENDED, when the script's frame returns.");
        String[][] values = {{"undefined", "0 0"}, {"null", "1 0"}, {"true", "2 0"}, {"false", "3 0"}, {"NaN", "4 0"}, {"-5", "5 -5"}, {"'length'", "6 0"}, {"print", "7 9"}};
        for (String[] value : values) {
            ScriptTypes x = Kit.run("throw " + value[0]);
            Kit.check("uncaught " + value[0], x.count(6) + " " + x.uncaught(0) + " " + x.uncaught(1) + " " + x.count(11) + " " + x.frame(0, 0) + " " + x.uncaught(2) + " " + x.uncaught(-1),
                "3 " + value[1] + " 0 -1 -1 -1");
        }
        ScriptTypes e = Kit.run("1");
        Kit.check("ended", e.count(6) + " " + e.count(7) + " " + e.count(11) + " " + e.frame(0, 0) + " " + e.value(0, -1, 0) + " " + e.uncaught(0) + " " + Kit.outcome(() -> e.run(0)),
            "2 4 0 -1 -1 -1 IllegalStateException");
        ScriptTypes g = Kit.script("1;2");
        g.begin();
        Kit.check("all but the last step", g.run(5) + " " + g.count(6) + " " + g.run(1) + " " + g.count(6) + " " + g.count(7), "5 1 1 2 6");
        ScriptTypes u = Kit.script("throw 1");
        u.begin();
        Kit.check("the step that throws", u.run(1) + " " + u.count(6) + " " + u.run(2000) + " " + u.count(6) + " " + u.count(7), "1 1 1 3 2");
        u.begin();
        Kit.check("nothing is uncaught when it begins anew", u.uncaught(0) + " " + u.count(6), "-1 1");
    }

    private static void lookingAtFrames() {
        Kit.sentence("frame: 0 its function, 1 its place, 2 values on its stack, 3 its scope (NONE: none), 4 tries that are open. NONE if there is none such.");
        ScriptTypes x = Kit.script("function f(a){try{try{return [a,1]}catch(e){}}finally{}}o={g:f};o.g(7)");
        x.begin();
        Kit.check("the script's at first", x.frame(0, 0) + " " + x.frame(0, 1) + " " + x.frame(0, 2) + " " + x.frame(0, 3) + " " + x.frame(0, 4) + " " + x.frame(1, 0), "0 0 0 -1 0 -1");
        while (x.frame(0, 4) < 2) {
            x.run(1);
        }
        int place = x.frame(0, 1);
        Kit.check("a function's", x.frame(0, 0) + " " + Kit.instruction(x, place) + " " + x.frame(0, 2) + " " + x.frame(0, 3) + " " + x.frame(0, 4), "1 ARRAY1 0 26 2");
        x.run(3);
        Kit.check("three values", x.frame(0, 2) + " " + x.frame(0, 1) + " " + x.value(0, 2, 0) + x.value(0, 2, 1) + " " + x.value(0, 3, 0), "3 " + (place + 3) + " 50 -1");
        Kit.check("the caller's", x.frame(1, 0) + " " + x.frame(1, 2) + " " + x.frame(1, 3) + " " + x.frame(1, 4) + " " + x.frame(2, 0), "0 0 -1 0 -1");
        Kit.check("no what", x.frame(0, -1) + " " + x.frame(0, 5) + " " + x.frame(1, 5) + " " + x.frame(-1, 0), "-1 -1 -1 -1");
        while (x.frame(0, 4) > 0) {
            x.run(1);
        }
        Kit.check("tries that were left", x.frame(0, 4) + " " + x.count(11), "0 2");
    }

    private static void lookingAtValues() {
        Kit.sentence("value: what 0: 0 undefined .. 8 a LIST; 1: the number, the string's number, the object's; how many of a LIST are left; else 0");
        String[][] values = {{"undefined", "0 0"}, {"null", "1 0"}, {"true", "2 0"}, {"false", "3 0"}, {"NaN", "4 0"}, {"-7", "5 -7"}, {"0", "5 0"}, {"2147483647", "5 2147483647"},
            {"-2147483647-1", "5 -2147483648"}, {"''", "6 30"}, {"'length'", "6 0"}, {"print", "7 9"}};
        for (String[] value : values) {
            ScriptTypes x = Kit.script("z=" + value[0]);
            x.begin();
            while (!Kit.instruction(x, x.frame(0, 1)).startsWith("SETGLOBAL")) {
                x.run(1);
            }
            Kit.check("value " + value[0], x.value(0, 0, 0) + " " + x.value(0, 0, 1) + " " + x.value(0, 0, 2) + " " + x.value(0, 0, -1) + " " + x.value(0, 1, 0), value[1] + " -1 -1 -1");
        }
        for (String text : new String[] {"z=1<2;z=1>2;z=1/0;z=5%0;z=+'x';z=-{};z=!1;z=!0;z=void 0;z=1-{};z=1===1;z=1!=1;z=null==undefined", "z='a' in {};z={} instanceof Object;z={}.q;z='x'.q;z=true.q;"
            + "z=delete {}.a;z=delete [].length;z=delete (5).x;z=undefined;z=null;z=NaN;z=true;z=false", "z=isNaN(1);z=isNaN('x');z={}.hasOwnProperty('a');z=[].pop();z=print();a=[1];a.pop();z=a.pop()",
            "function f(a,b){var c;z=c;z=b;z=this;return}z=f();z=f.call();z=f(1)", "var v;z=v;for(k in {a:1})z=k;z=NaN+1;z=undefined+1;z=NaN-1;z=-NaN;z=+NaN;z=+undefined",
            "o={u:undefined,n:null,t:true,f:false,a:NaN};z=o.u;z=o.n;z=o.t;z=o.f;z=o.a;z=[undefined][0]", "a=[9];delete a[0];z=a.pop();z='a'<'b';z='b'<='a';z=1>=NaN;z=0||undefined;z=1&&null"}) {
            noDatum(text);
        }
        ScriptTypes y = Kit.script("function f(){return this}f.call('s');f.call(9);f.call(print);f.call()");
        y.begin();
        StringBuilder s = new StringBuilder();
        int frames = 1;
        while (y.count(6) == 1) {
            y.run(1);
            if (y.count(11) > frames) {
                s.append(y.value(0, -1, 0)).append(':').append(y.value(0, -1, 1)).append(' ');
            }
            frames = y.count(11);
        }
        Kit.check("this", s, "6:" + Kit.name(y, "s") + " 5:9 7:9 0:0 ");
        ScriptTypes empty = Kit.script("for(k in 5);");
        empty.begin();
        empty.run(2);
        Kit.check("an empty LIST", empty.value(0, 0, 0) + " " + empty.value(0, 0, 1), "8 0");
    }

    // At each step: undefined, null, true, false and NaN have 0 as their second word, on the stack, as this, and in the variables.
    private static void noDatum(String text) {
        ScriptTypes x = Kit.script(text);
        x.begin();
        for (int step = 0; x.count(6) == 1; step++) {
            if (step % 40 == 39) {
                ScriptTypes next = Kit.script(text);
                next.begin();
                next.run(x.count(7));
                x = next;
            }
            x.run(1);
            int top = x.frame(0, 2) - 1;
            int kind = x.value(0, top, 0);
            if (kind >= 0 && kind <= 4) {
                Kit.check("second word of kind " + kind + " at step " + step + " of " + text, x.value(0, top, 1) + " " + (x.value(0, -1, 0) <= 4 ? x.value(0, -1, 1) : 0), "0 0");
            }
            int scope = x.frame(0, 3);
            for (int k = 0; scope >= 0 && k < x.object(scope, 3); k++) {
                if (x.property(scope, k, 1) <= 4) {
                    Kit.check("second word of variable " + k + " at step " + step + " of " + text, x.property(scope, k, 2), 0);
                }
            }
        }
        for (int k = 9; k < x.object(0, 3); k++) {
            if (x.property(0, k, 1) <= 4) {
                Kit.check("second word of global " + k + " of " + text, x.property(0, k, 2), 0);
            }
        }
    }

    private static void lookingAtObjects() {
        Kit.sentence("object: 0 its LABEL now, 1 its PROTO (NONE: null), 2 its LINK (NONE: none), 3 how many properties it has, 4 0 a plain one, 1 a function, 2 an array, 3 a scope");
        ScriptTypes x = Kit.run("function f(a){return function(){}}g=f(1);o={p:1,q:2};a=[1];e=Error(1)");
        StringBuilder s = new StringBuilder();
        for (int o = 22; o <= x.count(8); o++) {
            for (int what = 0; what <= 4; what++) {
                s.append(x.object(o, what)).append(what < 4 ? " " : "; ");
            }
        }
        Kit.check("objects", s, "22 2 -1 0 1; 31 2 -1 1 1; 33 1 -1 1 0; 29 -1 -1 1 3; 37 2 25 1 1; 39 1 -1 1 0; 41 1 -1 2 0; 43 3 -1 2 2; 25 5 -1 1 0; -1 -1 -1 -1 -1; ");
        Kit.check("the globals", x.object(0, 0) + " " + x.object(0, 1) + " " + x.object(0, 2) + " " + x.object(0, 3) + " " + x.object(0, 4) + " " + x.object(1, 1), "0 1 -1 14 0 -1");
        Kit.check("no what", x.object(0, 5) + " " + x.object(0, -1) + " " + x.object(-1, 0), "-1 -1 -1");
        Kit.sentence("property: 0 its name, a string's number; 1, 2 its value, as value() tells it by 0 and 1. NONE if there is none such.");
        Kit.check("properties", property(x, 28, 0) + " " + property(x, 28, 1) + " " + property(x, 28, 2) + " " + property(x, 29, 0) + " " + property(x, 29, 1) + " " + property(x, 30, 0),
            "p:5:1 q:5:2 :-1:-1 length:5:1 0:5:1 message:6:" + x.property(30, 0, 2));
        Kit.check("none such", x.property(28, 2, 0) + " " + x.property(28, -1, 0) + " " + x.property(28, 0, 3) + " " + x.property(28, 0, -1) + " " + x.property(31, 0, 0) + " " + x.property(-1, 0, 0),
            "-1 -1 -1 -1 -1 -1");
        ScriptTypes y = Kit.run("o={a:1,b:2,c:3};delete o.b;o.b=4");
        Kit.check("in their order", property(y, 23, 0) + " " + property(y, 23, 1) + " " + property(y, 23, 2) + " " + y.object(23, 3), "a:5:1 c:5:3 b:5:4 3");
    }

    private static String property(ScriptTypes x, int o, int k) {
        return Kit.string(x, x.property(o, k, 0)) + ":" + x.property(o, k, 1) + ":" + x.property(o, k, 2);
    }

    private static void lookingAtLines() {
        Kit.sentence("printed: Sign k of line i that was printed (a string's number: k -1); NONE if there is none such.");
        ScriptTypes x = Kit.run("print('ab');print('');print(12)");
        Kit.check("signs", x.printed(0, 0) + " " + x.printed(0, 1) + " " + x.printed(0, 2) + " " + x.printed(1, 0) + " " + x.printed(2, 0) + " " + x.printed(2, 1) + " " + x.printed(2, 2),
            "97 98 -1 -1 49 50 -1");
        Kit.check("numbers", x.printed(0, -1) + " " + x.printed(1, -1) + " " + x.printed(2, -1) + " " + x.printed(3, -1) + " " + x.printed(-1, -1) + " " + x.printed(0, -2),
            Kit.name(x, "ab") + " 30 " + x.count(2) + " -1 -1 -1");
        Kit.check("ahead of begin", Kit.script("print(1)").printed(0, 0), -1);
    }
}
