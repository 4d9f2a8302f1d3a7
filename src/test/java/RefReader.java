import java.util.ArrayList;
import java.util.Arrays;
import java.util.HashMap;
import java.util.LinkedHashMap;
import java.util.List;
import java.util.Map;
import java.util.regex.Matcher;
import java.util.regex.Pattern;

/** A second reader of scripts, by a tree: what the tests hold against the first one. */
final class RefReader {
    private static final class Fault extends RuntimeException {
        private static final long serialVersionUID = 1L;
        final int number;
        final int line;

        Fault(int number, int line) {
            this.number = number;
            this.line = line;
        }
    }

    private static final class Token {
        final String kind;
        final String text;
        final int line;

        Token(String kind, String text, int line) {
            this.kind = kind;
            this.text = text;
            this.line = line;
        }

        boolean is(String sign) {
            return (kind.equals("sign") || kind.equals("key")) && text.equals(sign);
        }
    }

    private static final class Node {
        final String type;
        final String text;
        final List<Node> kids = new ArrayList<>();
        Fn fn;

        Node(String type, String text, Node... kids) {
            this.type = type;
            this.text = text;
            this.kids.addAll(Arrays.asList(kids));
        }

        Node kid(int i) {
            return kids.get(i);
        }

        boolean isTarget() {
            return type.equals("name") || type.equals("member");
        }
    }

    /** A function, as the machines want it. */
    static final class Fn {
        int id;
        Fn outer;
        final List<String> params = new ArrayList<>();
        String own;
        boolean declared;
        final List<String> vars = new ArrayList<>();
        final List<Node> parts = new ArrayList<>();
        final List<Node> declarations = new ArrayList<>();
        int first;

        void add(String name) {
            if (!vars.contains(name)) {
                vars.add(name);
            }
        }
    }

    static final String[] FIRST = ("length prototype constructor message name print Object Array String isNaN Error TypeError "
        + "ReferenceError RangeError push pop call hasOwnProperty charAt undefined object boolean number string function null true "
        + "false NaN [object]").split(" ");
    private static final List<String> KEYS = Arrays.asList(("break case catch continue default delete do else false finally for "
        + "function if in instanceof NaN new null return switch this throw true try typeof undefined var void while").split(" "));
    private static final List<String> SIGNS = Arrays.asList((">>>= === !== >>> <<= >>= <= >= == != ++ -- << >> && || += -= *= /= "
        + "%= &= |= ^= { } ( ) [ ] . ; , < > + - * % / & | ^ ! ~ ? : =").split(" "));
    private static final List<String> ASSIGNS = Arrays.asList("+= -= *= /= %= <<= >>= >>>= &= |= ^=".split(" "));
    private static final List<String> BINARIES = Arrays.asList("+ - * / % << >> >>> & | ^ == != === !== < > <= >= in instanceof".split(" "));
    private static final String[] LEVELS = {"||", "&&", "|", "^", "&", "== != === !==", "< > <= >= in instanceof", "<< >> >>>", "+ -", "* / %"};
    private static final List<String> PREFIXES = Arrays.asList("delete void typeof ++ -- + - ~ !".split(" "));
    private static final List<String> UNARIES = Arrays.asList("+ - ~ ! typeof".split(" "));
    private static final Pattern BLANK = Pattern.compile("(?:[\\t\\n ]|//[^\\n]*|/\\*(?s:.*?)\\*/)*");
    private static final Pattern WORD = Pattern.compile("[A-Za-z_$][A-Za-z0-9_$]*");
    private static final Pattern DIGITS = Pattern.compile("[0-9]+");

    private final String source;
    private final List<Token> tokens = new ArrayList<>();
    private int pos;
    private int open;
    private boolean noIn;
    private int loops;
    private int switches;
    private Fn fn;

    final Map<String, Integer> names = new LinkedHashMap<>();
    final List<Fn> functions = new ArrayList<>();
    final List<int[]> code = new ArrayList<>();
    final List<Integer> owner = new ArrayList<>();
    int sites;
    int fault;

    RefReader(String source) {
        this.source = source;
        for (String name : FIRST) {
            names.put(name, names.size());
        }
        names.put("", names.size());
        try {
            scan();
            fn = function();
            parts("end");
            fault = generate();
        } catch (Fault f) {
            fault = f.number + 8 * f.line;
        }
    }

    int labels() {
        return 29 + 6 * (functions.size() - 1) + 2 * sites;
    }

    // ---- tokens

    private int lineOf(int at) {
        int line = 1;
        for (int i = 0; i < at && i < source.length(); i++) {
            if (source.charAt(i) == '\n') {
                line++;
            }
        }
        return line;
    }

    private void scan() {
        int at = 0;
        while (true) {
            Matcher blank = BLANK.matcher(source).region(at, source.length());
            if (blank.lookingAt()) {
                at = blank.end();
            }
            int line = lineOf(at);
            if (at >= source.length()) {
                tokens.add(new Token("end", "", line));
                return;
            }
            String rest = source.substring(at);
            Matcher word = WORD.matcher(rest);
            Matcher digits = DIGITS.matcher(rest);
            char c = rest.charAt(0);
            if (rest.startsWith("/*")) {
                tokens.add(new Token("error", "", line));
                return;
            } else if (word.lookingAt()) {
                String text = word.group();
                tokens.add(new Token(text.length() > 16 ? "error" : KEYS.contains(text) ? "key" : "name", text, line));
                at += text.length();
            } else if (digits.lookingAt()) {
                String text = digits.group();
                boolean bad = text.length() > 10 || Long.parseLong(text) > Integer.MAX_VALUE
                    || rest.length() > text.length() && Character.toString(rest.charAt(text.length())).matches("[A-Za-z_$]");
                tokens.add(new Token(bad ? "error" : "number", text, line));
                at += text.length();
            } else if (c == '"' || c == '\'') {
                int used = string(rest, line);
                if (used < 0) {
                    tokens.add(new Token("error", "", line));
                    return;
                }
                at += used;
            } else {
                String sign = null;
                for (String s : SIGNS) {
                    if (rest.startsWith(s)) {
                        sign = s;
                        break;
                    }
                }
                if (sign == null) {
                    tokens.add(new Token("error", "", line));
                    return;
                }
                tokens.add(new Token("sign", sign, line));
                at += sign.length();
            }
        }
    }

    private int string(String rest, int line) {
        char mark = rest.charAt(0);
        StringBuilder text = new StringBuilder();
        int i = 1;
        while (i < rest.length() && rest.charAt(i) != mark) {
            char c = rest.charAt(i);
            if (c == '\\') {
                i++;
                char e = i < rest.length() ? rest.charAt(i) : 0;
                if (e == 'n') {
                    c = '\n';
                } else if (e == 't') {
                    c = '\t';
                } else if (e == '\\' || e == '\'' || e == '"') {
                    c = e;
                } else {
                    return -1;
                }
            } else if (c < 32 || c > 126) {
                return -1;
            }
            text.append(c);
            i++;
        }
        if (i >= rest.length() || text.length() > 40) {
            return -1;
        }
        tokens.add(new Token("string", text.toString(), line));
        return i + 1;
    }

    private Token now() {
        Token t = tokens.get(pos);
        if (t.kind.equals("error")) {
            throw new Fault(1, t.line);
        }
        return t;
    }

    private boolean is(String sign) {
        return now().is(sign);
    }

    private Fault wrong(int number) {
        return new Fault(number, now().line);
    }

    private boolean accept(String sign) {
        if (is(sign)) {
            pos++;
            return true;
        }
        return false;
    }

    private void expect(String sign) {
        if (!accept(sign)) {
            throw wrong(2);
        }
    }

    private boolean newLine() {
        return pos > 0 && now().line > tokens.get(pos - 1).line;
    }

    private void open() {
        if (open == 20) {
            throw wrong(5);
        }
        open++;
    }

    private String keep(String text) {
        names.putIfAbsent(text, names.size());
        return text;
    }

    private String name(boolean keys) {
        Token t = now();
        if (!t.kind.equals("name") && !(keys && t.kind.equals("key"))) {
            throw wrong(2);
        }
        pos++;
        return keep(t.text);
    }

    // ---- parts and statements

    private Fn function() {
        Fn f = new Fn();
        f.id = functions.size();
        f.outer = fn;
        functions.add(f);
        return f;
    }

    private void parts(String end) {
        while (!(end.equals("end") ? now().kind.equals("end") : is(end))) {
            if (is("function")) {
                open();
                Fn f = function();
                pos++;
                f.declared = true;
                f.own = name(false);
                if (fn.id > 0) {
                    fn.add(f.own);
                }
                rest(f);
                open--;
                Node node = new Node("declaration", f.own);
                node.fn = f;
                fn.declarations.add(node);
            } else {
                fn.parts.add(statement());
            }
        }
    }

    private void rest(Fn f) {
        expect("(");
        if (!is(")")) {
            do {
                if (now().kind.equals("name") && f.params.contains(now().text)) {
                    throw wrong(3);
                }
                f.params.add(name(false));
            } while (f.params.size() < 8 && accept(","));
        }
        expect(")");
        expect("{");
        for (String p : f.params) {
            f.add(p);
        }
        if (!f.declared && f.own != null) {
            f.add(f.own);
        }
        Fn outer = fn;
        int l = loops;
        int s = switches;
        boolean n = noIn;
        fn = f;
        loops = 0;
        switches = 0;
        noIn = false;
        parts("}");
        fn = outer;
        loops = l;
        switches = s;
        noIn = n;
        expect("}");
    }

    private boolean beginsUnit() {
        Token t = now();
        if (t.kind.equals("name") || t.kind.equals("number") || t.kind.equals("string")) {
            return true;
        }
        return (t.kind.equals("key") || t.kind.equals("sign"))
            && (PREFIXES.contains(t.text) || Arrays.asList("this true false null undefined NaN function new ( [ {".split(" ")).contains(t.text));
    }

    private Node statement() {
        Token t = now();
        boolean other = (t.kind.equals("key") || t.kind.equals("sign"))
            && Arrays.asList("; var if while do for continue break return throw try switch".split(" ")).contains(t.text);
        if (!other && (!beginsUnit() || t.is("function"))) {
            throw wrong(2);
        }
        if (t.is("break") && loops + switches == 0 || t.is("continue") && loops == 0 || t.is("return") && fn.id == 0) {
            throw wrong(3);
        }
        open();
        Node node = other || t.is("{") ? special(t) : new Node("expression", null, expression());
        if (node.type.equals("expression")) {
            semicolon();
        }
        open--;
        return node;
    }

    private void semicolon() {
        if (!accept(";") && !is("}") && !now().kind.equals("end") && !newLine()) {
            throw wrong(2);
        }
    }

    private Node block() {
        Node block = new Node("block", null);
        expect("{");
        while (!is("}")) {
            block.kids.add(statement());
        }
        expect("}");
        return block;
    }

    private Node condition() {
        expect("(");
        Node e = expression();
        expect(")");
        return e;
    }

    private Node body() {
        loops++;
        Node s = statement();
        loops--;
        return s;
    }

    private Node special(Token t) {
        if (t.is("{")) {
            return block();
        }
        pos++;
        switch (t.text) {
            case ";": return new Node("block", null);
            case "var": {
                Node list = variables(variable());
                semicolon();
                return list;
            }
            case "if": {
                Node node = new Node("if", null, condition(), statement());
                if (accept("else")) {
                    node.kids.add(statement());
                }
                return node;
            }
            case "while": return new Node("while", null, condition(), body());
            case "do": {
                Node s = body();
                expect("while");
                Node node = new Node("do", null, s, condition());
                accept(";");
                return node;
            }
            case "for": return forRest();
            case "return": {
                Node node = new Node("return", null);
                if (!newLine() && !is(";") && !is("}")) {
                    node.kids.add(expression());
                }
                semicolon();
                return node;
            }
            case "throw": {
                if (newLine()) {
                    throw wrong(2);
                }
                Node node = new Node("throw", null, expression());
                semicolon();
                return node;
            }
            case "try": return tryRest();
            case "switch": return switchRest();
            default:
                semicolon();
                return new Node(t.text, null);
        }
    }

    private String variable() {
        String name = name(false);
        fn.add(name);
        return name;
    }

    private Node variables(String first) {
        Node list = new Node("var", null);
        String name = first;
        while (true) {
            if (accept("=")) {
                list.kids.add(new Node("init", name, inner()));
            }
            if (!accept(",")) {
                return list;
            }
            name = variable();
        }
    }

    private Node forRest() {
        expect("(");
        noIn = true;
        Node first = null;
        if (accept("var")) {
            String name = variable();
            if (is("in")) {
                return forIn(name);
            }
            first = variables(name);
        } else if (!is(";")) {
            int start = pos;
            Node e = expression();
            if (is("in") && e.type.equals("name") && pos == start + 1) {
                return forIn(e.text);
            }
            first = new Node("expression", null, e);
        }
        expect(";");
        noIn = false;
        Node test = is(";") ? null : expression();
        expect(";");
        Node step = is(")") ? null : expression();
        expect(")");
        return new Node("for", null, first, test, step, body());
    }

    private Node forIn(String name) {
        noIn = false;
        expect("in");
        Node e = expression();
        expect(")");
        return new Node("forin", name, e, body());
    }

    private Node tryRest() {
        Node b = block();
        Node node = b;
        boolean some = false;
        if (accept("catch")) {
            expect("(");
            String name = variable();
            expect(")");
            node = new Node("catch", name, b, block());
            some = true;
        }
        if (accept("finally")) {
            node = new Node("finally", null, node, block());
            some = true;
        }
        if (!some) {
            throw wrong(2);
        }
        return node;
    }

    private Node switchRest() {
        Node node = new Node("switch", null, condition());
        expect("{");
        boolean def = false;
        while (!is("}")) {
            Node clause;
            if (accept("case")) {
                clause = new Node("case", null, expression());
            } else if (is("default")) {
                if (def) {
                    throw wrong(3);
                }
                pos++;
                def = true;
                clause = new Node("default", null, (Node) null);
            } else {
                throw wrong(2);
            }
            expect(":");
            switches++;
            while (!is("case") && !is("default") && !is("}")) {
                clause.kids.add(statement());
            }
            switches--;
            node.kids.add(clause);
        }
        expect("}");
        return node;
    }

    // ---- expressions

    private Node expression() {
        Node e = assign();
        while (accept(",")) {
            e = new Node("comma", null, e, assign());
        }
        return e;
    }

    private Node inner() {
        if (!beginsUnit()) {
            throw wrong(2);
        }
        open();
        Node a = assign();
        open--;
        return a;
    }

    private Node assign() {
        Node c = choice();
        Token t = now();
        if (!t.is("=") && !(t.kind.equals("sign") && ASSIGNS.contains(t.text))) {
            return c;
        }
        if (!c.isTarget()) {
            throw wrong(3);
        }
        pos++;
        return new Node("assign", t.text, c, inner());
    }

    private Node choice() {
        Node o = binary(0);
        if (!accept("?")) {
            return o;
        }
        Node a = inner();
        expect(":");
        return new Node("choice", null, o, a, inner());
    }

    private boolean isLevel(int level) {
        Token t = now();
        return (t.kind.equals("sign") || t.kind.equals("key")) && Arrays.asList(LEVELS[level].split(" ")).contains(t.text)
            && !(noIn && t.text.equals("in"));
    }

    private Node binary(int level) {
        if (level == LEVELS.length) {
            return unit();
        }
        Node left = binary(level + 1);
        while (isLevel(level)) {
            String sign = now().text;
            pos++;
            left = new Node("binary", sign, left, binary(level + 1));
        }
        return left;
    }

    private Node unit() {
        Token t = now();
        if ((t.kind.equals("sign") || t.kind.equals("key")) && PREFIXES.contains(t.text)) {
            open();
            pos++;
            Node u = unit();
            open--;
            now();
            boolean step = t.is("++") || t.is("--");
            if (step && !u.isTarget() || t.is("delete") && !u.type.equals("member")) {
                throw wrong(3);
            }
            return new Node(step ? "prestep" : "prefix", t.text, u);
        }
        Node left = left();
        if ((is("++") || is("--")) && !newLine()) {
            if (!left.isTarget()) {
                throw wrong(3);
            }
            String sign = now().text;
            pos++;
            return new Node("poststep", sign, left);
        }
        return left;
    }

    private Node left() {
        Node node = is("new") ? construction() : primary();
        while (true) {
            Node member = member(node);
            if (member != null) {
                node = member;
            } else if (is("(")) {
                Node call = new Node("call", null, node);
                call.kids.addAll(list("(", ")", 8));
                node = call;
            } else {
                return node;
            }
        }
    }

    private Node member(Node of) {
        if (accept(".")) {
            return new Node("member", null, of, new Node("string", name(true)));
        }
        if (!is("[")) {
            return null;
        }
        boolean outer = bracket();
        Node e = expression();
        close("]", outer);
        return new Node("member", null, of, e);
    }

    private boolean bracket() {
        open();
        boolean outer = noIn;
        noIn = false;
        pos++;
        return outer;
    }

    private void close(String sign, boolean outer) {
        expect(sign);
        noIn = outer;
        open--;
    }

    private List<Node> list(String from, String to, int limit) {
        List<Node> items = new ArrayList<>();
        boolean outer = bracket();
        if (!is(to)) {
            do {
                items.add(assign());
            } while (items.size() < limit && accept(","));
        }
        close(to, outer);
        return items;
    }

    private Node construction() {
        open();
        pos++;
        Node f = is("new") ? construction() : primary();
        for (Node m = member(f); m != null; m = member(f)) {
            f = m;
        }
        Node node = new Node("new", null, f);
        if (is("(")) {
            node.kids.addAll(list("(", ")", 8));
        }
        open--;
        return node;
    }

    private Node primary() {
        Token t = now();
        if (t.kind.equals("name")) {
            return new Node("name", name(false));
        }
        if (t.kind.equals("number")) {
            pos++;
            return new Node("number", t.text);
        }
        if (t.kind.equals("string")) {
            pos++;
            return new Node("string", keep(t.text));
        }
        if (t.is("(")) {
            boolean outer = bracket();
            Node e = expression();
            close(")", outer);
            return new Node("brackets", null, e);
        }
        if (t.is("[")) {
            Node node = new Node("array", null);
            node.kids.addAll(list("[", "]", 16));
            return node;
        }
        if (t.is("{")) {
            return objectRest();
        }
        if (t.is("function")) {
            open();
            Fn f = function();
            pos++;
            if (now().kind.equals("name")) {
                f.own = name(false);
            }
            rest(f);
            open--;
            Node node = new Node("function", null);
            node.fn = f;
            return node;
        }
        if (t.kind.equals("key") && Arrays.asList("this true false null undefined NaN".split(" ")).contains(t.text)) {
            pos++;
            return new Node("literal", t.text);
        }
        throw wrong(2);
    }

    private Node objectRest() {
        Node node = new Node("object", null);
        boolean outer = bracket();
        if (!is("}")) {
            do {
                Token t = now();
                String key;
                if (t.kind.equals("number")) {
                    key = keep("" + Integer.parseInt(t.text));
                    pos++;
                } else if (t.kind.equals("string")) {
                    key = keep(t.text);
                    pos++;
                } else {
                    key = name(true);
                }
                expect(":");
                node.kids.add(new Node("item", key, assign()));
            } while (node.kids.size() < 16 && accept(","));
        }
        close("}", outer);
        return node;
    }

    // ---- code

    /** What is open around a place, from the innermost out. */
    private static final class Around {
        final String kind;
        final Around outer;
        Node last;
        int values;
        List<Integer> breaks = new ArrayList<>();
        List<Integer> continues = new ArrayList<>();

        Around(String kind, Around outer) {
            this.kind = kind;
            this.outer = outer;
        }
    }

    private static final class TooLong extends RuntimeException {
        private static final long serialVersionUID = 1L;
    }

    private int generate() {
        try {
            for (Fn f : functions) {
                fn = f;
                f.first = code.size();
                if (f.id == 0) {
                    for (String name : f.vars) {
                        emit(0, 0, 0);
                        set(name);
                        emit(17, 0, 0);
                    }
                }
                for (Node d : f.declarations) {
                    emit(9, d.fn.id, 0);
                    set(d.text);
                    emit(17, 0, 0);
                }
                for (Node s : f.parts) {
                    statement(s, null);
                }
                emit(0, 0, 0);
                emit(25, 0, 0);
            }
        } catch (TooLong e) {
            return 4;
        }
        if (functions.size() > 11 || sites > 19 || names.size() > 90 || code.size() > 600) {
            return 4;
        }
        for (Fn f : functions) {
            if (f.id > 0 && f.vars.size() > 12) {
                return 4;
            }
        }
        return (code.size() + 2L * functions.size()) * labels() * names.size() > 450000 ? 4 : 0;
    }

    private int emit(int op, int a, int b) {
        if (code.size() > 700) {
            throw new TooLong();
        }
        code.add(new int[] {op, a, b});
        owner.add(fn.id);
        return code.size() - 1;
    }

    private void land(int jump) {
        code.get(jump)[1] = code.size();
    }

    private void land(List<Integer> jumps, int place) {
        for (int j : jumps) {
            code.get(j)[1] = place;
        }
    }

    private int far(String name) {
        int far = 0;
        for (Fn f = fn; f.id > 0; f = f.outer) {
            if (f.vars.contains(name)) {
                return far;
            }
            far++;
        }
        return -1;
    }

    private void get(String name) {
        int far = far(name);
        emit(far < 0 ? 3 : 1, Math.max(far, 0), names.get(name));
    }

    private void set(String name) {
        int far = far(name);
        emit(far < 0 ? 4 : 2, Math.max(far, 0), names.get(name));
    }

    private void constant(String text) {
        emit(0, 6, names.get(text));
    }

    private void code(Node e) {
        switch (e.type) {
            case "comma":
                code(e.kid(0));
                emit(17, 0, 0);
                code(e.kid(1));
                break;
            case "number": emit(0, 5, Integer.parseInt(e.text)); break;
            case "string": constant(e.text); break;
            case "literal":
                if (e.text.equals("this")) {
                    emit(6, 0, 0);
                } else {
                    emit(0, Arrays.asList("undefined null true false NaN".split(" ")).indexOf(e.text), 0);
                }
                break;
            case "name": get(e.text); break;
            case "brackets": code(e.kid(0)); break;
            case "member":
                code(e.kid(0));
                code(e.kid(1));
                emit(10, 0, 0);
                break;
            case "function": emit(9, e.fn.id, 0); break;
            case "array":
                emit(8, sites++, 0);
                for (int i = 0; i < e.kids.size(); i++) {
                    emit(18, 0, 0);
                    emit(0, 5, i);
                    code(e.kid(i));
                    emit(11, 0, 0);
                    emit(17, 0, 0);
                }
                break;
            case "object":
                emit(7, sites++, 0);
                for (Node item : e.kids) {
                    emit(18, 0, 0);
                    constant(item.text);
                    code(item.kid(0));
                    emit(11, 0, 0);
                    emit(17, 0, 0);
                }
                break;
            case "call": call(e); break;
            case "new":
                for (Node kid : e.kids) {
                    code(kid);
                }
                emit(16, e.kids.size() - 1, sites++);
                break;
            case "binary": binary(e); break;
            case "choice": {
                code(e.kid(0));
                int no = emit(22, 0, 0);
                code(e.kid(1));
                int end = emit(21, 0, 0);
                land(no);
                code(e.kid(2));
                land(end);
                break;
            }
            case "prefix": prefix(e); break;
            default: change(e); break;
        }
    }

    private void call(Node e) {
        Node f = e.kid(0);
        if (f.type.equals("member")) {
            code(f.kid(0));
            emit(18, 0, 0);
            code(f.kid(1));
            emit(10, 0, 0);
        } else {
            emit(0, 0, 0);
            code(f);
        }
        for (Node a : e.kids.subList(1, e.kids.size())) {
            code(a);
        }
        emit(15, e.kids.size() - 1, 0);
    }

    private void binary(Node e) {
        code(e.kid(0));
        if (e.text.equals("&&") || e.text.equals("||")) {
            int end = emit(e.text.equals("&&") ? 23 : 24, 0, 0);
            code(e.kid(1));
            land(end);
        } else {
            code(e.kid(1));
            emit(14, BINARIES.indexOf(e.text), 0);
        }
    }

    private void prefix(Node e) {
        Node u = e.kid(0);
        if (e.text.equals("delete")) {
            code(u.kid(0));
            code(u.kid(1));
            emit(12, 0, 0);
        } else if (e.text.equals("typeof") && u.type.equals("name") && far(u.text) < 0) {
            emit(5, 0, names.get(u.text));
        } else if (e.text.equals("void")) {
            code(u);
            emit(17, 0, 0);
            emit(0, 0, 0);
        } else {
            code(u);
            emit(13, UNARIES.indexOf(e.text), 0);
        }
    }

    // assign, prestep and poststep
    private void change(Node e) {
        Node target = e.kid(0);
        boolean name = target.type.equals("name");
        if (!name) {
            code(target.kid(0));
            code(target.kid(1));
        }
        if (!e.text.equals("=")) {
            if (name) {
                get(target.text);
            } else {
                emit(19, 0, 0);
                emit(10, 0, 0);
            }
        }
        if (e.type.equals("assign")) {
            code(e.kid(1));
            if (!e.text.equals("=")) {
                emit(14, ASSIGNS.indexOf(e.text), 0);
            }
        } else {
            emit(13, 0, 0);
            if (e.type.equals("poststep")) {
                emit(name ? 18 : 20, 0, 0);
            }
            emit(0, 5, 1);
            emit(14, e.text.equals("++") ? 0 : 1, 0);
        }
        if (name) {
            set(target.text);
        } else {
            emit(11, 0, 0);
        }
        if (e.type.equals("poststep")) {
            emit(17, 0, 0);
        }
    }

    private void statement(Node s, Around around) {
        switch (s.type) {
            case "block":
                for (Node kid : s.kids) {
                    statement(kid, around);
                }
                break;
            case "expression":
                code(s.kid(0));
                emit(17, 0, 0);
                break;
            case "var":
                for (Node init : s.kids) {
                    code(init.kid(0));
                    set(init.text);
                    emit(17, 0, 0);
                }
                break;
            case "if": {
                code(s.kid(0));
                int otherwise = emit(22, 0, 0);
                statement(s.kid(1), around);
                if (s.kids.size() > 2) {
                    int end = emit(21, 0, 0);
                    land(otherwise);
                    statement(s.kid(2), around);
                    land(end);
                } else {
                    land(otherwise);
                }
                break;
            }
            case "while":
            case "do":
            case "for":
            case "forin": loop(s, around); break;
            case "switch": switchCode(s, around); break;
            case "throw":
                code(s.kid(0));
                emit(26, 0, 0);
                break;
            case "catch": catchCode(s, around); break;
            case "finally": finallyCode(s, around); break;
            case "return":
                if (s.kids.isEmpty()) {
                    emit(0, 0, 0);
                } else {
                    code(s.kid(0));
                }
                returnCode(around);
                break;
            default: leave(s.type, around); break;
        }
    }

    private void loop(Node s, Around outer) {
        Around around = new Around(s.type.equals("forin") ? "forin" : "loop", outer);
        int exit = -1;
        int top;
        int again;
        switch (s.type) {
            case "while":
                top = code.size();
                again = top;
                code(s.kid(0));
                exit = emit(22, 0, 0);
                statement(s.kid(1), around);
                emit(21, top, 0);
                break;
            case "do":
                top = code.size();
                statement(s.kid(0), around);
                again = code.size();
                code(s.kid(1));
                exit = emit(22, 0, 0);
                emit(21, top, 0);
                break;
            case "forin":
                code(s.kid(0));
                emit(29, 0, 0);
                top = code.size();
                again = top;
                exit = emit(30, 0, 0);
                set(s.text);
                emit(17, 0, 0);
                statement(s.kid(1), around);
                emit(21, top, 0);
                break;
            default:
                if (s.kid(0) != null) {
                    statement(s.kid(0), outer);
                }
                top = code.size();
                if (s.kid(1) != null) {
                    code(s.kid(1));
                    exit = emit(22, 0, 0);
                }
                statement(s.kid(3), around);
                again = code.size();
                if (s.kid(2) != null) {
                    code(s.kid(2));
                    emit(17, 0, 0);
                }
                emit(21, top, 0);
                break;
        }
        if (exit >= 0) {
            land(exit);
        }
        land(around.continues, again);
        land(around.breaks, code.size());
    }

    private void switchCode(Node s, Around outer) {
        Around around = new Around("switch", outer);
        code(s.kid(0));
        Map<Node, Integer> starts = new HashMap<>();
        Node def = null;
        for (Node clause : s.kids.subList(1, s.kids.size())) {
            if (clause.type.equals("default")) {
                def = clause;
                continue;
            }
            emit(18, 0, 0);
            code(clause.kid(0));
            emit(14, 13, 0);
            int next = emit(22, 0, 0);
            emit(17, 0, 0);
            starts.put(clause, emit(21, 0, 0));
            land(next);
        }
        emit(17, 0, 0);
        int rest = emit(21, 0, 0);
        if (def == null) {
            around.breaks.add(rest);
        } else {
            starts.put(def, rest);
        }
        for (Node clause : s.kids.subList(1, s.kids.size())) {
            land(starts.get(clause));
            for (Node kid : clause.kids.subList(1, clause.kids.size())) {
                statement(kid, around);
            }
        }
        land(around.breaks, code.size());
    }

    private void catchCode(Node s, Around outer) {
        int handler = emit(27, 0, 0);
        statement(s.kid(0), new Around("try", outer));
        emit(28, 0, 0);
        int end = emit(21, 0, 0);
        land(handler);
        set(s.text);
        emit(17, 0, 0);
        statement(s.kid(1), outer);
        land(end);
    }

    private Around values(int values, Around outer) {
        Around around = new Around("values", outer);
        around.values = values;
        return around;
    }

    private void finallyCode(Node s, Around outer) {
        int handler = emit(27, 0, 0);
        Around around = new Around("try", outer);
        around.last = s.kid(1);
        statement(s.kid(0), around);
        emit(28, 0, 0);
        statement(s.kid(1), outer);
        int end = emit(21, 0, 0);
        land(handler);
        statement(s.kid(1), values(1, outer));
        emit(26, 0, 0);
        land(end);
    }

    private void returnCode(Around around) {
        int values = 1;
        for (Around a = around; a != null; a = a.outer) {
            if (a.kind.equals("try")) {
                emit(28, 0, 0);
                if (a.last != null) {
                    statement(a.last, values(values, a.outer));
                }
            } else if (a.kind.equals("values")) {
                values += a.values;
            } else if (a.kind.equals("forin")) {
                values++;
            }
        }
        emit(25, 0, 0);
    }

    private void leave(String what, Around around) {
        for (Around a = around; a != null; a = a.outer) {
            switch (a.kind) {
                case "try":
                    emit(28, 0, 0);
                    if (a.last != null) {
                        statement(a.last, a.outer);
                    }
                    break;
                case "values":
                    for (int i = 0; i < a.values; i++) {
                        emit(17, 0, 0);
                    }
                    break;
                case "switch":
                    if (what.equals("break")) {
                        a.breaks.add(emit(21, 0, 0));
                        return;
                    }
                    break;
                default:
                    if (what.equals("break")) {
                        if (a.kind.equals("forin")) {
                            emit(17, 0, 0);
                        }
                        a.breaks.add(emit(21, 0, 0));
                    } else {
                        a.continues.add(emit(21, 0, 0));
                    }
                    return;
            }
        }
    }
}
