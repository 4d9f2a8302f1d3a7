/** Section 1 of the terms up to the tokens: each sentence that names a bound, on both of its sides. */
public final class TokenBoundsTest {
    private static final String KEYWORDS = "break case catch continue default delete do else false finally for function if in instanceof NaN new null "
        + "return switch this throw true try typeof undefined var void while";

    private TokenBoundsTest() {
    }

    public static void main(String[] args) {
        tape();
        lines();
        longestTokens();
        bytes();
        comments();
        names();
        keywords();
        numbers();
        strings();
        escapes();
        signs();
        Kit.end("TokenBoundsTest");
    }

    private static void fault(String text, String want) {
        Kit.check("fault of " + text, Kit.fault(text), want);
    }

    private static void all(String want, String... texts) {
        for (String text : texts) {
            fault(text, want);
        }
    }

    private static String times(String s, int n) {
        return s.repeat(n);
    }

    private static void tape() {
        Kit.sentence("A TAPE has at most 4,000 bytes.");
        ScriptTypes x = new ScriptTypes();
        for (int i = 1; i < 200; i++) {
            x.feed(0x20202020, 0x20202020, 0x20202020, 0x20202020, 0x20202020);
        }
        Kit.check("the 4,000 bytes", x.feed(0x20202020, 0x20202020, 0x20202020, 0x20202020, 0x20202029), 4000);
        Kit.check("the 4,001st byte", x.feed(0, 0, 0, 0, 0), -1);
        Kit.check("byte 4,000 is read", x.read(), 2 + 8);
        Kit.check("3,999 bytes", Kit.fault(times(" ", 3998) + ")"), "2:1");
        ScriptTypes y = new ScriptTypes();
        Kit.feed(y, times(";", 3999));
        Kit.check("3,999 bytes have no room for twenty", y.feed(0, 0, 0, 0, 0), -1);
        Kit.check("nor have 3,981", y.back(18) + " " + y.feed(0, 0, 0, 0, 0) + " " + y.count(5), "3981 -1 3981");
        Kit.check("but 3,980", y.back(1) + " " + y.feed(0x3b3b3b3b, 0x3b3b3b3b, 0x3b3b3b3b, 0x3b3b3b3b, 0x3b3b3b3b), "3980 4000");
        Kit.check("and all of them are read", y.read(), 0);
        fault("/*" + times("a", 3996) + "*/", "0");
        fault(times("\n", 3999) + ")", "2:4000");
        fault(")" + times("\n", 3999), "2:1");
    }

    private static void lines() {
        Kit.sentence("LINES are counted from 1 on by the bytes 10.");
        fault("@", "1:1");
        fault("\n@", "1:2");
        fault("\n\n\n@\n", "1:4");
        fault("//\r@\r\n@", "1:2");
        fault("//" + (char) 11 + (char) 12 + (char) 133 + "\n@", "1:2");
        fault("/*\n\n*/\n@", "1:4");
        fault(";;;;\t;@\n", "1:1");
        fault("x='\\n';\n@", "1:2");
    }

    private static void longestTokens() {
        Kit.sentence("TOKENS, each as long as can be");
        all("0", "a+++b", "a++ +b", "a+ ++b", "a+ +b", "a- -b", "a---b", "a>>>b", "a>>>=b", "a>>=b", "a<<=b", "a!==b", "a===b", "a=!b", "a!=!b", "a==!b",
            "a=-b", "a&&b", "a||b", "a<=-b", "a<-b", "a>=+b", "a>>>-b", "a>>-b", "a<<~b", "ab", "a1", "instanceofa", "ifa", "a in b", "a^=b", "a%=b");
        all("2:1", "a> >b", "a> >=b", "a> >>b", "a>> >b", "a>>> =b", "a! ==b", "a! =b", "a= =b", "a== =b", "a! == b", "a& &b", "a| |b", "a< <b", "a<< =b",
            "a+ =b", "a- =b", "a* =b", "a/ =b", "a% =b", "a& =b", "a| =b", "a^ =b", "a< =b", "a> =b", "a====b", "a>>>>b", "a<<<b", "a&&&b", "a|||b", "a++++b",
            "a----b", "a--b", "a++b", "a b", "a i n b", "1 2", "a=>b", "a=<b", "a**b", "a??b", "a?.b");
        fault("a--->b", "2:1");
        fault("a-->b", "0");
        fault("a++>b", "0");
        Kit.check("a+++b", Kit.code("a+++b"), Kit.code("(a++)+b"));
        Kit.check("a- --b", Kit.code("a- --b"), Kit.code("a-(--b)"));
        Kit.check("a>>>=b", Kit.code("a>>>=b"), Kit.code("a=a>>>b"));
        Kit.check("a---b", Kit.code("a---b"), Kit.code("(a--)-b"));
    }

    // What stands for each byte between two names, and alone.
    private static void bytes() {
        Kit.sentence("between them blanks (9, 10, 32); NAMES: a letter, _ or $, then these and digits; 1 no token begins so");
        for (int c = 0; c < 256; c++) {
            String between = "1:1";
            String alone = "1:1";
            boolean letter = c >= 'a' && c <= 'z' || c >= 'A' && c <= 'Z' || c == '_' || c == '$';
            if (letter) {
                between = "0";
                alone = "0";
            } else if (c >= '0' && c <= '9') {
                between = "0";
                alone = "0";
            } else if (c == 10 || c == ';') {
                between = "0";
                alone = "0";
            } else if (c == 9 || c == 32) {
                between = "2:1";
                alone = "0";
            } else if ("+-*/%<>&|^,.=".indexOf(c) >= 0) {
                between = "0";
                alone = "2:1";
            } else if ("!~?:()[]{}".indexOf(c) >= 0) {
                between = "2:1";
                alone = "2:1";
            }
            fault("a" + (char) c + "b", between);
            fault("" + (char) c, alone);
        }
    }

    private static void comments() {
        Kit.sentence("comments (// up to a 10 or the end)");
        all("0", "//", "//\n", "// a b )", "//@\n", "a//b\nc", "//\n//", "///", "//*", "//*\n", "//'\n", "// \\\n", "a//", "a//\nb");
        all("1:2", "//\n@", "// /* \n@", "//\n'");
        fault("a//\n)", "2:2");
        fault("a/ /b", "2:1");
        StringBuilder any = new StringBuilder("//");
        for (int c = 0; c < 256; c++) {
            any.append(c == 10 ? "" : (char) c);
        }
        fault(any + "\n@", "1:2");
        Kit.sentence("comments (/ * to * /, written without the blank)");
        all("0", "/**/", "/***/", "/*a*/", "/* /* */", "/*//*/", "/*'*/", "/*\n*/", "/****/", "/* * / */", "/**/a/**/", "a/*\n*/b", "a/**/+/**/b", "/*\\*/", "f(/**/)");
        all("1:1", "/*", "/*/", "/* *", "/**", "a/*b", "/* * /", "/*\n\n", "/**/@", "/*\r*/@", "'a/*'/*");
        all("2:1", "*/", "/* */ */", "a/**/b", "a/ *b*/", "/* a */ )", "a+/**/+/**/");
        fault("a\n\n/*\n\n", "1:3");
        fault("/*\n*/@", "1:2");
        fault("/*\n*/\n/*\n", "1:3");
        StringBuilder every = new StringBuilder("/*");
        for (int c = 0; c < 256; c++) {
            every.append((char) c);
        }
        fault(every + "*/@", "1:2");
        fault("a/*\n*/++\nb", "0");
        fault("x='//'+'/*'", "0");
    }

    private static void names() {
        Kit.sentence("NAMES: a letter, _ or $, then these and digits, 16 at most.");
        all("0", "a", "Z", "_", "$", "a0", "_9$", times("a", 15), times("a", 16), times("_", 16), "a" + times("9", 15), "x." + times("b", 16), "x={" + times("k", 16) + ":1}",
            "function " + times("f", 16) + "(" + times("p", 16) + "){}");
        all("1:1", times("a", 17), times("_", 17), times("$", 17), "a" + times("9", 16), "x." + times("b", 17), "x={" + times("k", 17) + ":1}", times("a", 200),
            "function " + times("f", 17) + "(){}", "function f(" + times("p", 17) + "){}", "instanceof" + times("x", 7), "9a");
        fault("instanceof" + times("x", 6), "0");
        fault("\n" + times("a", 17), "1:2");
        Kit.check("all 16 signs count", Kit.script(times("a", 15) + "b;" + times("a", 15) + "c").count(2), 33);
        Kit.check("great and small letters are unlike", Kit.script("a;A;aA;Aa").count(2), 35);
    }

    private static void keywords() {
        Kit.sentence("KEYWORDS: these 29 are no names");
        String[] words = KEYWORDS.split(" ");
        Kit.check("keywords", words.length, 29);
        for (String word : words) {
            fault("var " + word, "2:1");
            fault("function " + word + "(){}", "2:1");
            fault("function f(" + word + "){}", "2:1");
            fault("try{}catch(" + word + "){}", "2:1");
            fault("for(var " + word + " in a);", "2:1");
            String other = word.equals("NaN") ? "Nan" : word.substring(0, 1).toUpperCase() + word.substring(1);
            all("0", "var " + other, "var " + word + "x", "var " + word + "1", "var $" + word, "var _" + word, "var " + word + "_");
        }
        all("0", "var brea", "var cas", "var catc", "var continu", "var defaul", "var delet", "var d", "var els", "var fals", "var finall", "var fo", "var functio",
            "var i", "var instanceo", "var Na", "var ne", "var nul", "var retur", "var switc", "var thi", "var thro", "var tru", "var tr", "var typeo",
            "var undefine", "var va", "var voi", "var whil", "var NAN", "var nan", "var IF", "var let,of,with,get,set,async,arguments,eval,self");
    }

    private static void numbers() {
        Kit.sentence("NUMBERS: 1 to 10 digits, 2147483647 at most, no letter, digit, _ or $ behind.");
        all("0", "0", "9", "00", "123456789", "1234567890", "0000000000", "0000000001", "2147483646", "2147483647", "1999999999", "5.x", "5 .x", "5;a", "5+a", "5\na", "5[1]");
        all("1:1", "2147483648", "2147483650", "2147483700", "2147490000", "2200000000", "3000000000", "4294967295", "4294967296", "4294967297", "9999999999", "00000000000",
            "00000000001", "10000000000", "12345678901", times("1", 40), "5a", "5z", "5A", "5Z", "5_", "5$", "0x1", "1e5", "5if", "-2147483648", "2147483647a", "a=5b");
        all("2:1", "5 a", "5 5", "5.5", "5.", "a.5", "5 _");
        fault("\n\n2147483648", "1:3");
        Kit.check("what a number means", Kit.code("0000000005;08;2147483647;1234567890;010"), "5 DROP 8 DROP 2147483647 DROP 1234567890 DROP 10 DROP undefined RETURN");
    }

    private static void strings() {
        Kit.sentence("STRINGS: between two ' or two \", at most 40 signs of 32 .. 126");
        for (String mark : new String[] {"'", "\""}) {
            String other = mark.equals("'") ? "\"" : "'";
            for (int n : new int[] {0, 1, 39, 40, 41, 42, 200}) {
                fault("x=" + mark + times("a", n) + mark, n <= 40 ? "0" : "1:1");
                fault("x=" + mark + times("\\\\", n) + mark, n <= 40 ? "0" : "1:1");
            }
            fault("x=" + mark + times("a", 39) + "\\n" + mark, "0");
            fault("x=" + mark + times("a", 40) + "\\n" + mark, "1:1");
            fault("x=" + mark + "\\n" + times("a", 39) + mark, "0");
            fault("x=" + mark + "\\n" + times("a", 40) + mark, "1:1");
            fault("x={" + mark + times("k", 40) + mark + ":1}", "0");
            fault("x={" + mark + times("k", 41) + mark + ":1}", "1:1");
            for (int c = 0; c < 256; c++) {
                boolean good = c >= 32 && c <= 126 && c != mark.charAt(0) && c != '\\';
                fault("x=" + mark + (char) c + mark, good ? "0" : "1:1");
            }
            Kit.check("the other mark within", Kit.string(Kit.script("x=" + mark + "a" + other + "b" + mark), 32), "a" + other + "b");
        }
        Kit.check("all 40 signs", Kit.string(Kit.script("x='" + times("ab", 20) + "'"), 32), times("ab", 20));
        Kit.check("lowest and highest sign", Kit.string(Kit.script("x=' ~'"), 32), " ~");
        Kit.check("the empty string is the name 30", Kit.script("''").instruction(0, 2), 30);
        Kit.sentence("1 no token begins so, or it is too long or great, or has no end (the line at which it begins)");
        all("1:1", "'", "\"", "x='a", "x='a\"", "x=\"a'", "x='a\n'", "x='\\'", "x='\\", "'a\\\n'", "x='a\n\n\n", "''+'");
        fault("\n\nx=\n'a\n", "1:4");
        fault("\n'" + times("a", 41) + "'", "1:2");
        fault("\n@", "1:2");
        fault("''''", "2:1");
    }

    private static void escapes() {
        Kit.sentence("where \\n is a 10, \\t a 9, \\\\ \\' \\\" the sign behind; no other thing behind a \\, and no byte 9 or 10 within");
        for (int c = 0; c < 256; c++) {
            boolean good = "nt\\'\"".indexOf(c) >= 0;
            fault("x='\\" + (char) c + "'", good ? "0" : "1:1");
            fault("x=\"\\" + (char) c + "\"", good ? "0" : "1:1");
        }
        Kit.check("escapes", Kit.string(Kit.script("x='\\n\\t\\\\\\'\\\"n'"), 32), "\n\t\\'\"n");
        Kit.check("escapes between the other marks", Kit.string(Kit.script("x=\"\\n\\t\\\\\\'\\\"t\""), 32), "\n\t\\'\"t");
        Kit.check("a \\ that is escaped escapes nothing", Kit.string(Kit.script("x='\\\\n'"), 32), "\\n");
        all("1:1", "x='a\tb'", "x='a\nb'", "x='\t'", "x='\n'", "x='\\\t'", "x='\\\n'");
    }

    private static void signs() {
        Kit.sentence("SIGNS: these, and no others");
        String[] between = "< > <= >= == != === !== + - * % / << >> >>> & | ^ && || = += -= *= /= %= <<= >>= >>>= &= |= ^= , .".split(" ");
        for (String sign : between) {
            fault("a" + sign + "b", "0");
            fault("a " + sign + "\nb", "0");
            fault("a" + sign, "2:1");
            fault(sign + "\n@", sign.equals("+") || sign.equals("-") ? "1:2" : "2:1");
        }
        all("0", "a++", "a--", "++a", "--a", "!a", "~a", "-a", "+a", "a?b:c", "a;b", "{}", "(a)", "[]", "a[b]", "a(b)");
        all("1:1", "a#b", "a@b", "`a`", "a\\b", "#", "\\", "a" + (char) 127, "" + (char) 128, "" + (char) 0);
        Kit.check("each sign of two has its own operation", Kit.code("a<b>c;d<=e;d>=f;d==g;d!=h;d===i;d!==j"),
            "GLOBAL:a GLOBAL:b BINARY15 GLOBAL:c BINARY16 DROP GLOBAL:d GLOBAL:e BINARY17 DROP GLOBAL:d GLOBAL:f BINARY18 DROP GLOBAL:d GLOBAL:g BINARY11 DROP "
            + "GLOBAL:d GLOBAL:h BINARY12 DROP GLOBAL:d GLOBAL:i BINARY13 DROP GLOBAL:d GLOBAL:j BINARY14 DROP undefined RETURN");
    }
}
