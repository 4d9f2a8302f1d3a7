import java.util.ArrayList;
import java.util.HashMap;
import java.util.List;
import java.util.Map;
import java.util.TreeSet;

/** A second abstract machine, of sets and maps: what the tests hold against the first one. */
final class RefSolver {
    private static final Object ALL = "ALL";

    /** A SET, or a field. */
    static final class Value {
        final TreeSet<String> words = new TreeSet<>();
        Object number;
        Object string;
        final TreeSet<Integer> labels = new TreeSet<>();
        boolean absent;

        Value copy() {
            Value v = new Value();
            v.join(this);
            return v;
        }

        boolean join(Value v) {
            String before = toString();
            words.addAll(v.words);
            number = joined(number, v.number);
            string = joined(string, v.string);
            labels.addAll(v.labels);
            absent |= v.absent;
            return !before.equals(toString());
        }

        private static Object joined(Object p, Object q) {
            return p == null ? q : q == null || p.equals(q) && p != ALL && q != ALL ? p : ALL;
        }

        boolean empty() {
            return words.isEmpty() && number == null && string == null && labels.isEmpty();
        }

        boolean primitive() {
            return !words.isEmpty() || number != null || string != null;
        }

        boolean alone() {
            return labels.isEmpty() && number != ALL && string != ALL
                && words.size() + (number != null ? 1 : 0) + (string != null ? 1 : 0) == 1;
        }

        // undefined, null, true, false, NaN as words; a number; a string
        Object value() {
            return number != null ? number : string != null ? "'" + string : words.first();
        }

        @Override
        public String toString() {
            return words + "," + (number == ALL ? "NUM" : number) + "," + (string == ALL ? "STR" : "'" + string) + "," + labels + "," + absent;
        }
    }

    private static Value word(String... words) {
        Value v = new Value();
        for (String w : words) {
            v.words.add(w);
        }
        return v;
    }

    private static Value number(Object n) {
        Value v = new Value();
        v.number = n;
        return v;
    }

    private Value string(Object s) {
        Value v = new Value();
        v.string = s == ALL || reader.names.containsKey(s) ? s : ALL;
        return v;
    }

    private static Value label(int... labels) {
        Value v = new Value();
        for (int l : labels) {
            v.labels.add(l);
        }
        return v;
    }

    private static final class Row {
        final TreeSet<Integer> proto = new TreeSet<>();
        boolean mayBeNull;
        final TreeSet<Integer> link = new TreeSet<>();
        final Map<String, Value> fields = new HashMap<>();

        Row copy() {
            Row r = new Row();
            r.proto.addAll(proto);
            r.mayBeNull = mayBeNull;
            r.link.addAll(link);
            for (Map.Entry<String, Value> e : fields.entrySet()) {
                r.fields.put(e.getKey(), e.getValue().copy());
            }
            return r;
        }

        boolean join(Row r) {
            boolean grown = proto.addAll(r.proto) | link.addAll(r.link) | r.mayBeNull & !mayBeNull;
            mayBeNull |= r.mayBeNull;
            for (Map.Entry<String, Value> e : r.fields.entrySet()) {
                grown |= fields.computeIfAbsent(e.getKey(), k -> new Value()).join(e.getValue());
            }
            return grown;
        }
    }

    static final class State {
        List<Value> stack = new ArrayList<>();
        Value self = new Value();
        TreeSet<Integer> scope = new TreeSet<>();
        Map<Integer, Row> rows = new HashMap<>();

        State copy() {
            State s = new State();
            for (Value v : stack) {
                s.stack.add(v.copy());
            }
            s.self = self.copy();
            s.scope.addAll(scope);
            for (Map.Entry<Integer, Row> e : rows.entrySet()) {
                s.rows.put(e.getKey(), e.getValue().copy());
            }
            return s;
        }

        boolean join(State s) {
            if (stack.size() != s.stack.size()) {
                throw new IllegalStateException("stacks of " + stack.size() + " and " + s.stack.size());
            }
            boolean grown = self.join(s.self) | scope.addAll(s.scope);
            for (int i = 0; i < stack.size(); i++) {
                grown |= stack.get(i).join(s.stack.get(i));
            }
            for (Map.Entry<Integer, Row> e : s.rows.entrySet()) {
                grown |= !rows.containsKey(e.getKey());
                grown |= rows.computeIfAbsent(e.getKey(), k -> new Row()).join(e.getValue());
            }
            return grown;
        }

        Value pop() {
            return stack.remove(stack.size() - 1);
        }

        Value top() {
            return stack.get(stack.size() - 1);
        }

        List<TreeSet<Integer>> all() {
            List<TreeSet<Integer>> all = new ArrayList<>();
            for (Value v : stack) {
                all.add(v.labels);
            }
            all.add(self.labels);
            all.add(scope);
            for (Row r : rows.values()) {
                all.add(r.proto);
                all.add(r.link);
                for (Value f : r.fields.values()) {
                    all.add(f.labels);
                }
            }
            return all;
        }
    }

    private static final String OTHER = "\u0000other";

    private final RefReader reader;
    private final List<String> keys = new ArrayList<>();
    private final List<String> names;
    private final int sites;
    private final int count;
    final State[] states;
    private final int[][] opens;
    final int[] warned;
    private boolean grown;
    private int at;
    private boolean normal;

    RefSolver(RefReader reader) {
        this.reader = reader;
        names = new ArrayList<>(reader.names.keySet());
        keys.addAll(names);
        keys.add(OTHER);
        sites = 29 + 6 * (reader.functions.size() - 1);
        count = reader.code.size();
        states = new State[count + 2 * reader.functions.size()];
        opens = new int[count][];
        warned = new int[count];
        State first = new State();
        first.self = word("undefined");
        int[] protos = {1, -1, 1, 1, 1, 1, 5, 5, 5};
        for (int l = 0; l < 23; l++) {
            row(first, l, l < 9 ? protos[l] : 2);
        }
        Object[][] props = {{0, "print", 9}, {0, "Object", 10}, {0, "Array", 11}, {0, "String", 12}, {0, "isNaN", 13}, {0, "Error", 14},
            {0, "TypeError", 15}, {0, "ReferenceError", 16}, {0, "RangeError", 17}, {1, "constructor", 10}, {1, "hasOwnProperty", 21},
            {2, "call", 20}, {3, "constructor", 11}, {3, "push", 18}, {3, "pop", 19}, {4, "constructor", 12}, {4, "charAt", 22},
            {5, "constructor", 14}, {6, "constructor", 15}, {7, "constructor", 16}, {8, "constructor", 17}, {5, "name", "Error"},
            {6, "name", "TypeError"}, {7, "name", "ReferenceError"}, {8, "name", "RangeError"}, {10, "prototype", 1},
            {11, "prototype", 3}, {12, "prototype", 4}, {14, "prototype", 5}, {15, "prototype", 6}, {16, "prototype", 7},
            {17, "prototype", 8}};
        for (Object[] p : props) {
            first.rows.get(p[0]).fields.put((String) p[1], p[2] instanceof String ? string(p[2]) : label((Integer) p[2]));
        }
        go(0, first, new int[0]);
        do {
            grown = false;
            for (int k = 0; k < count; k++) {
                if (states[k] != null) {
                    evaluate(k);
                }
            }
        } while (grown);
    }

    // ---- labels

    private boolean paired(int l) {
        return l >= 29;
    }

    private boolean latest(int l) {
        return paired(l) && (l - 29) % 2 == 0;
    }

    private boolean single(int l) {
        return l < 23 || latest(l);
    }

    private int coded(int l) {
        return l >= 29 && l < sites && ((l - 29) % 6 == 2 || (l - 29) % 6 == 3) ? (l - 29) / 6 + 1 : 0;
    }

    private boolean function(int l) {
        return l >= 9 && l <= 22 || coded(l) > 0;
    }

    private boolean array(int l) {
        if (l == 24) {
            return true;
        }
        for (int[] i : reader.code) {
            if (i[0] == 8 && (l == sites + 2 * i[1] || l == sites + 2 * i[1] + 1)) {
                return true;
            }
        }
        return false;
    }

    private boolean maker(int l) {
        return coded(l) > 0 || l >= 10 && l <= 17 && l != 13;
    }

    // ---- rows

    private Row row(State s, int l, int proto) {
        Row r = new Row();
        if (proto < 0) {
            r.mayBeNull = true;
        } else {
            r.proto.add(proto);
        }
        for (String key : keys) {
            Value f = new Value();
            f.absent = true;
            r.fields.put(key, f);
        }
        s.rows.put(l, r);
        return r;
    }

    private Row make(State s, int l, int proto) {
        for (TreeSet<Integer> labels : s.all()) {
            if (labels.remove(l)) {
                labels.add(l + 1);
            }
        }
        Row old = s.rows.get(l);
        if (old != null) {
            s.rows.computeIfAbsent(l + 1, k -> new Row()).join(old);
        }
        return row(s, l, proto);
    }

    private void add(State s, int l, int proto, String name, Value value) {
        State fresh = new State();
        Row r = row(fresh, l, proto);
        if (name != null) {
            r.fields.put(name, value);
        }
        s.rows.computeIfAbsent(l, k -> new Row()).join(r);
    }

    private void age(TreeSet<Integer> labels) {
        for (int l : new ArrayList<>(labels)) {
            if (latest(l)) {
                labels.add(l + 1);
            }
        }
    }

    // ---- ways

    private void go(int place, State s, int[] open) {
        if (states[place] == null) {
            states[place] = s.copy();
            if (place < count) {
                opens[place] = open;
            }
            grown = true;
        } else {
            grown |= states[place].join(s);
        }
    }

    private void on(State s) {
        normal = true;
        go(at + 1, s, opens[at]);
    }

    private void on(State s, Value v) {
        if (!v.empty()) {
            s.stack.add(v);
            on(s);
        }
    }

    private void hurl(State from, Value v) {
        State s = from.copy();
        int[] open = opens[at];
        if (open.length == 0) {
            s.stack.clear();
            s.stack.add(v);
            s.self = new Value();
            s.scope.clear();
            go(count + 2 * reader.owner.get(at) + 1, s, null);
            return;
        }
        int[] outer = java.util.Arrays.copyOf(open, open.length - 2);
        while (s.stack.size() > open[open.length - 1]) {
            s.pop();
        }
        s.stack.add(v);
        go(open[open.length - 2], s, outer);
    }

    private void error(State from, int l) {
        warned[at] |= l == 26 ? 1 : l == 27 ? 2 : 0;
        State s = from.copy();
        add(s, l, l - 20, null, null);
        hurl(s, label(l));
    }

    // ---- sets

    private TreeSet<String> keysOf(Value v) {
        TreeSet<String> k = new TreeSet<>(v.words);
        if (v.number == ALL) {
            for (String name : names) {
                if (name.matches("0|-?[1-9][0-9]{0,9}") && Long.parseLong(name) == (int) Long.parseLong(name)) {
                    k.add(name);
                }
            }
            k.add(OTHER);
        } else if (v.number != null) {
            k.add(names.contains("" + v.number) ? "" + v.number : OTHER);
        }
        if (v.string == ALL) {
            k.addAll(keys);
        } else if (v.string != null) {
            k.add((String) v.string);
        }
        if (!v.labels.isEmpty()) {
            k.add("[object]");
        }
        return k;
    }

    private Value text(Value v) {
        TreeSet<String> k = keysOf(v);
        return string(k.size() == 1 && !k.contains(OTHER) ? k.first() : ALL);
    }

    private static boolean index(String key) {
        return key.equals(OTHER) || key.matches("[0-9]|[1-9][0-9]");
    }

    private boolean mayBeTrue(Value v) {
        return v.words.contains("true") || v.number != null && !v.number.equals(0) || v.string != null && !v.string.equals("")
            || !v.labels.isEmpty();
    }

    private boolean mayBeFalse(Value v) {
        return v.words.contains("undefined") || v.words.contains("null") || v.words.contains("false") || v.words.contains("NaN")
            || v.number == ALL || v.number != null && v.number.equals(0) || v.string == ALL || v.string != null && v.string.equals("");
    }

    // Whether the keys can be missed; what is read is joined to out.
    private boolean read(State s, Iterable<String> keys, Iterable<Integer> labels, Value out) {
        boolean missed = false;
        for (String key : keys) {
            TreeSet<Integer> done = new TreeSet<>();
            List<Integer> todo = new ArrayList<>();
            for (int l : labels) {
                todo.add(l);
            }
            while (!todo.isEmpty()) {
                int l = todo.remove(0);
                if (!done.add(l) || !s.rows.containsKey(l)) {
                    continue;
                }
                Row r = s.rows.get(l);
                Value f = r.fields.getOrDefault(key, new Value());
                out.join(f);
                if (f.absent) {
                    todo.addAll(r.proto);
                    missed |= r.mayBeNull;
                }
            }
        }
        out.absent = false;
        return missed;
    }

    private boolean alone(Value o, TreeSet<String> keys) {
        return !o.primitive() && o.labels.size() == 1 && single(o.labels.first()) && keys.size() == 1 && !keys.contains(OTHER);
    }

    private void write(State s, Value o, TreeSet<String> keys, Value v, boolean alone) {
        for (int l : o.labels) {
            for (String key : keys) {
                if (s.rows.containsKey(l) && !(array(l) && key.equals("length"))) {
                    Map<String, Value> f = s.rows.get(l).fields;
                    if (alone) {
                        f.put(key, v.copy());
                    } else {
                        f.computeIfAbsent(key, k -> new Value()).join(v);
                    }
                }
            }
        }
    }

    private Value typeOf(Value v) {
        Value t = new Value();
        for (String w : v.words) {
            t.join(string(w.equals("undefined") ? w : w.equals("null") ? "object" : w.equals("NaN") ? "number" : "boolean"));
        }
        if (v.number != null) {
            t.join(string("number"));
        }
        if (v.string != null) {
            t.join(string("string"));
        }
        for (int l : v.labels) {
            t.join(string(function(l) ? "function" : "object"));
        }
        return t;
    }

    // ---- values that are alone

    private static Long numberOf(Object v) {
        if (v instanceof Integer) {
            return (long) (Integer) v;
        }
        String s = (String) v;
        if (s.equals("null") || s.equals("false") || s.equals("'")) {
            return 0L;
        }
        if (s.equals("true")) {
            return 1L;
        }
        if (s.matches("'-?[0-9]{1,10}")) {
            long n = Long.parseLong(s.substring(1));
            return n == (int) n ? n : null;
        }
        return null;
    }

    private static String textOf(Object v) {
        return v.toString().startsWith("'") ? v.toString().substring(1) : v.toString();
    }

    private static boolean isString(Object v) {
        return v.toString().startsWith("'");
    }

    private static Value orNaN(Long n) {
        return n == null ? word("NaN") : number((int) (long) n);
    }

    private static String group(Object v) {
        if (v instanceof Integer || v.equals("NaN")) {
            return "number";
        }
        return isString(v) ? "string" : v.equals("true") || v.equals("false") ? "boolean" : "none";
    }

    private Value fold(int a, Object v, Object w) {
        Long m = numberOf(v);
        Long n = numberOf(w);
        boolean none = m == null || n == null;
        int p = m == null ? 0 : (int) (long) m;
        int q = n == null ? 0 : (int) (long) n;
        boolean same = v.equals(w) && !v.equals("NaN");
        boolean alike = group(v).equals(group(w)) ? group(v).equals("none") || same
            : !group(v).equals("none") && !group(w).equals("none") && !none && m.equals(n);
        switch (a) {
            case 0: {
                if (!isString(v) && !isString(w)) {
                    return none ? word("NaN") : orNaN(m + n);
                }
                String s = textOf(v) + textOf(w);
                return string(s.length() > 60 ? s.substring(0, 60) : s);
            }
            case 1: return none ? word("NaN") : orNaN(m - n);
            case 2: return none ? word("NaN") : orNaN(m * n);
            case 3: return none || n == 0 ? word("NaN") : orNaN(m / n);
            case 4: return none || n == 0 ? word("NaN") : orNaN(m % n);
            case 5: return number(p << q);
            case 6: return number(p >> q);
            case 7: return number(p >>> q);
            case 8: return number(p & q);
            case 9: return number(p | q);
            case 10: return number(p ^ q);
            case 11: return word("" + alike);
            case 12: return word("" + !alike);
            case 13: return word("" + same);
            case 14: return word("" + !same);
            default: break;
        }
        boolean texts = isString(v) && isString(w);
        if (!texts && none) {
            return word("false");
        }
        int c = texts ? textOf(v).compareTo(textOf(w)) : m.compareTo(n);
        return word("" + (a == 15 ? c < 0 : a == 16 ? c > 0 : a == 17 ? c <= 0 : c >= 0));
    }

    // ---- instructions

    private void evaluate(int k) {
        at = k;
        normal = false;
        warned[k] = 0;
        State s = states[k].copy();
        int[] i = reader.code.get(k);
        int a = i[1];
        String b = names.get(Math.min(i[2], names.size() - 1));
        TreeSet<Integer> scope = new TreeSet<>(s.scope);
        for (int far = 0; (i[0] == 1 || i[0] == 2) && far < a; far++) {
            TreeSet<Integer> links = new TreeSet<>();
            for (int l : scope) {
                if (s.rows.containsKey(l)) {
                    links.addAll(s.rows.get(l).link);
                }
            }
            scope = links;
        }
        Value place = new Value();
        place.labels.addAll(i[0] == 1 || i[0] == 2 ? scope : label(0).labels);
        TreeSet<String> key = new TreeSet<>();
        key.add(b);
        Value r = new Value();
        switch (i[0]) {
            case 0: on(s, a == 5 ? number(i[2]) : a == 6 ? string(b) : word(new String[] {"undefined", "null", "true", "false", "NaN"}[a])); break;
            case 1:
            case 3:
            case 5:
                for (int l : place.labels) {
                    if (s.rows.containsKey(l)) {
                        r.join(s.rows.get(l).fields.get(b));
                    }
                }
                if (i[0] == 3 && r.absent) {
                    error(s, 27);
                }
                if (i[0] == 5) {
                    Value t = typeOf(r);
                    t.join(r.absent ? string("undefined") : new Value());
                    r = t;
                }
                r.absent = false;
                on(s, r);
                break;
            case 2:
            case 4:
                write(s, place, key, s.top(), alone(place, key));
                on(s);
                break;
            case 6: on(s, s.self.copy()); break;
            case 7:
                make(s, sites + 2 * a, 1);
                on(s, label(sites + 2 * a));
                break;
            case 8:
                make(s, sites + 2 * a, 3).fields.put("length", number(0));
                on(s, label(sites + 2 * a));
                break;
            case 9: {
                int l = 29 + 6 * (a - 1) + 2;
                make(s, l, 2);
                make(s, l + 2, 1).fields.put("constructor", label(l));
                s.rows.get(l).fields.put("prototype", label(l + 2));
                s.rows.get(l).link.addAll(s.scope);
                on(s, label(l));
                break;
            }
            case 10: get(s); break;
            case 11: put(s); break;
            case 12: delete(s); break;
            case 13: unary(s, a); break;
            case 14: binary(s, a); break;
            case 15: {
                List<Value> args = take(s, a);
                Value f = s.pop();
                Value self = s.pop();
                call(states[k], s, f, self, args);
                break;
            }
            case 16: construct(s, a, sites + 2 * i[2]); break;
            default: flow(s, i[0], a); break;
        }
        if (!normal) {
            warned[k] |= 4;
        }
    }

    private boolean typeError(Value o) {
        if (o.words.contains("undefined") || o.words.contains("null")) {
            error(states[at], 26);
        }
        TreeSet<String> words = new TreeSet<>(o.words);
        words.remove("undefined");
        words.remove("null");
        return words.isEmpty() && o.number == null && o.string == null && o.labels.isEmpty();
    }

    private void get(State s) {
        TreeSet<String> k = keysOf(s.pop());
        Value o = s.pop();
        if (typeError(o)) {
            return;
        }
        Value r = new Value();
        if (o.words.contains("true") || o.words.contains("false") || o.words.contains("NaN") || o.number != null) {
            r.join(word("undefined"));
        }
        if (o.string != null) {
            TreeSet<String> others = new TreeSet<>(k);
            if (others.remove("length")) {
                r.join(number(o.alone() ? ((String) o.string).length() : ALL));
            }
            if (read(s, others, label(4).labels, r)) {
                r.join(word("undefined"));
            }
        }
        if (!o.labels.isEmpty() && read(s, k, o.labels, r)) {
            r.join(word("undefined"));
        }
        if (!o.labels.isEmpty() && r.toString().equals(word("undefined").toString())) {
            warned[at] |= 8;
        }
        on(s, r);
    }

    private void put(State s) {
        Value v = s.pop();
        TreeSet<String> k = keysOf(s.pop());
        Value o = s.pop();
        if (typeError(o)) {
            return;
        }
        write(s, o, k, v, alone(o, k));
        boolean loosens = false;
        for (String key : k) {
            loosens |= index(key);
        }
        for (int l : o.labels) {
            if (loosens && array(l) && s.rows.containsKey(l)) {
                s.rows.get(l).fields.get("length").join(number(ALL));
            }
        }
        on(s, v);
    }

    private void delete(State s) {
        TreeSet<String> k = keysOf(s.pop());
        Value o = s.pop();
        if (typeError(o)) {
            return;
        }
        Value gone = new Value();
        gone.absent = true;
        write(s, o, k, gone, alone(o, k));
        boolean arrays = false;
        boolean others = o.primitive();
        for (int l : o.labels) {
            arrays |= array(l);
            others |= !array(l);
        }
        if (!arrays || !k.contains("length")) {
            on(s, word("true"));
        } else {
            on(s, others || k.size() > 1 ? word("true", "false") : word("false"));
        }
    }

    private void unary(State s, int a) {
        Value v = s.pop();
        if (a == 4) {
            on(s, typeOf(v));
        } else if (!v.alone()) {
            Value r = a == 3 ? new Value() : number(ALL);
            if (a == 3 && mayBeFalse(v)) {
                r.join(word("true"));
            }
            if (a == 3 && mayBeTrue(v)) {
                r.join(word("false"));
            }
            if (a < 2) {
                r.join(word("NaN"));
            }
            on(s, r);
        } else {
            Long n = numberOf(v.value());
            if (a == 3) {
                on(s, word("" + mayBeFalse(v)));
            } else if (a == 2) {
                on(s, number(~(n == null ? 0 : (int) (long) n)));
            } else {
                on(s, orNaN(n == null ? null : a == 1 ? Long.valueOf(-n) : n));
            }
        }
    }

    private void binary(State s, int a) {
        Value w = s.pop();
        Value v = s.pop();
        Value r = new Value();
        if (a == 19) {
            if (w.primitive()) {
                error(states[at], 26);
            }
            Value read = new Value();
            if (!w.labels.isEmpty() && read(s, keysOf(v), w.labels, read)) {
                r.join(word("false"));
            }
            if (!read.empty()) {
                r.join(word("true"));
            }
        } else if (a == 20) {
            TreeSet<Integer> functions = new TreeSet<>();
            for (int l : w.labels) {
                if (function(l)) {
                    functions.add(l);
                }
            }
            TreeSet<String> key = new TreeSet<>();
            key.add("prototype");
            Value read = new Value();
            boolean missed = read(s, key, functions, read);
            if (w.primitive() || functions.size() < w.labels.size() || missed || read.primitive()) {
                error(states[at], 26);
            }
            if (!read.labels.isEmpty()) {
                r.join(word("false"));
                r.join(v.labels.isEmpty() ? new Value() : word("true"));
            }
        } else if (v.alone() && w.alone()) {
            r = fold(a, v.value(), w.value());
        } else if (a == 0) {
            if (v.string != null || w.string != null || !v.labels.isEmpty() || !w.labels.isEmpty()) {
                r.join(string(ALL));
            }
            if ((!v.words.isEmpty() || v.number != null) && (!w.words.isEmpty() || w.number != null)) {
                r.join(number(ALL));
                r.join(word("NaN"));
            }
        } else if (a <= 10) {
            r.join(number(ALL));
            r.join(a <= 4 ? word("NaN") : new Value());
        } else {
            r = word("true", "false");
        }
        on(s, r);
    }

    private void flow(State s, int op, int a) {
        int n = s.stack.size();
        int[] open = opens[at];
        switch (op) {
            case 17:
                s.pop();
                on(s);
                break;
            case 18: on(s, s.top().copy(), true); break;
            case 19:
                s.stack.add(s.stack.get(n - 2).copy());
                on(s, s.stack.get(n - 1).copy(), true);
                break;
            case 20:
                s.stack.add(n - 3, s.top().copy());
                on(s);
                break;
            case 21:
                normal = true;
                go(a, s, open);
                break;
            case 22: {
                Value v = s.pop();
                if (mayBeFalse(v)) {
                    normal = true;
                    go(a, s, open);
                }
                if (mayBeTrue(v)) {
                    on(s);
                }
                break;
            }
            case 23:
            case 24: {
                Value v = s.top();
                if (op == 23 ? mayBeFalse(v) : mayBeTrue(v)) {
                    normal = true;
                    go(a, s, open);
                }
                if (op == 23 ? mayBeTrue(v) : mayBeFalse(v)) {
                    s.pop();
                    on(s);
                }
                break;
            }
            case 25: {
                Value v = s.pop();
                s.stack.clear();
                s.stack.add(v);
                s.self = new Value();
                s.scope.clear();
                normal = true;
                go(count + 2 * reader.owner.get(at), s, null);
                break;
            }
            case 26: {
                Value v = s.pop();
                hurl(s, v);
                break;
            }
            case 27: {
                int[] more = java.util.Arrays.copyOf(open, open.length + 2);
                more[open.length] = a;
                more[open.length + 1] = n;
                normal = true;
                go(at + 1, s, more);
                break;
            }
            case 28:
                normal = true;
                go(at + 1, s, java.util.Arrays.copyOf(open, open.length - 2));
                break;
            case 29:
                s.pop();
                s.stack.add(new Value());
                on(s);
                break;
            default: {
                State end = s.copy();
                end.pop();
                normal = true;
                go(a, end, open);
                s.stack.add(string(ALL));
                on(s);
                break;
            }
        }
    }

    private void on(State s, Value v, boolean always) {
        s.stack.add(v);
        on(s);
    }

    // ---- calls

    private List<Value> take(State s, int a) {
        List<Value> args = new ArrayList<>();
        for (int i = 0; i < a; i++) {
            args.add(0, s.pop());
        }
        return args;
    }

    // ahead: the whole state; s: without what the call takes
    private void call(State ahead, State s, Value f, Value self, List<Value> args) {
        boolean others = f.primitive();
        for (int l : f.labels) {
            others |= !function(l);
        }
        if (others) {
            error(ahead, 26);
        }
        functions(ahead, s, f, self, args, -1);
        for (int l : f.labels) {
            if (l == 20) {
                call(ahead, s, self, args.isEmpty() ? word("undefined") : args.get(0), args.isEmpty() ? args : args.subList(1, args.size()));
            } else if (l >= 9 && l <= 22) {
                nativeWay(ahead, s, l, self, args);
            }
        }
    }

    private void functions(State ahead, State s, Value f, Value self, List<Value> args, int made) {
        for (int g = 1; g < reader.functions.size(); g++) {
            Value own = new Value();
            for (int l : f.labels) {
                if (coded(l) == g) {
                    own.labels.add(l);
                }
            }
            if (!own.labels.isEmpty()) {
                error(ahead, 28);
                enter(s, g, own, self, args);
                back(s, g, made);
            }
        }
    }

    private void enter(State s, int g, Value own, Value self, List<Value> args) {
        RefReader.Fn fn = reader.functions.get(g);
        State in = s.copy();
        in.stack.clear();
        for (Value v : args) {
            in.stack.add(v.copy());
        }
        in.self = self.copy();
        int l = 29 + 6 * (g - 1);
        Row r = make(in, l, -1);
        for (int f : own.labels) {
            if (in.rows.containsKey(f)) {
                r.link.addAll(in.rows.get(f).link);
            }
        }
        for (String name : fn.vars) {
            int p = fn.params.indexOf(name);
            if (p >= 0) {
                r.fields.put(name, p < args.size() ? in.stack.get(p) : word("undefined"));
            } else {
                r.fields.put(name, !fn.declared && name.equals(fn.own) ? own : word("undefined"));
            }
        }
        in.stack.clear();
        in.scope.clear();
        in.scope.add(l);
        go(fn.first, in, new int[0]);
    }

    private void back(State s, int g, int made) {
        for (int how = 0; how < 2; how++) {
            State end = states[count + 2 * g + how];
            if (end == null) {
                continue;
            }
            State back = s.copy();
            for (Value v : back.stack) {
                age(v.labels);
            }
            age(back.self.labels);
            age(back.scope);
            back.rows = end.copy().rows;
            Value v = end.stack.get(0).copy();
            if (how == 1) {
                hurl(back, v);
            } else if (made >= 0) {
                Value r = new Value();
                r.labels.addAll(v.labels);
                if (v.primitive()) {
                    r.labels.add(made);
                    r.labels.add(made + 1);
                }
                on(back, r);
            } else {
                on(back, v);
            }
        }
    }

    private void construct(State s, int a, int made) {
        List<Value> args = take(s, a);
        Value f = s.pop();
        boolean others = f.primitive();
        Value coded = new Value();
        for (int l : f.labels) {
            others |= !maker(l);
            if (coded(l) > 0) {
                coded.labels.add(l);
            }
        }
        if (others) {
            error(states[at], 26);
        }
        for (int l : f.labels) {
            if (maker(l) && coded(l) == 0) {
                nativeWay(states[at], s, l, word("undefined"), args);
            }
        }
        if (coded.labels.isEmpty()) {
            return;
        }
        State in = s.copy();
        in.stack.addAll(args);
        Row r = make(in, made, 1);
        Value read = new Value();
        TreeSet<String> key = new TreeSet<>();
        key.add("prototype");
        boolean missed = read(in, key, coded.labels, read);
        r.proto.clear();
        r.proto.addAll(read.labels);
        if (missed || read.primitive()) {
            r.proto.add(1);
        }
        List<Value> renamed = take(in, a);
        functions(in, in, coded, label(made), renamed, made);
    }

    private void nativeWay(State ahead, State from, int l, Value self, List<Value> args) {
        State s = from.copy();
        Value first = args.isEmpty() ? word("undefined") : args.get(0);
        boolean arrays = false;
        boolean others = self.primitive();
        for (int o : self.labels) {
            arrays |= array(o);
            others |= !array(o);
        }
        Value r = new Value();
        switch (l) {
            case 9: r = word("undefined"); break;
            case 10:
                add(s, 23, 1, null, null);
                r = label(23);
                break;
            case 11:
                add(s, 24, 3, "length", number(0));
                r = label(24);
                break;
            case 12: r = args.isEmpty() ? string("") : text(first); break;
            case 13: r = first.alone() ? word("" + (numberOf(first.value()) == null)) : word("true", "false"); break;
            case 18:
            case 19:
                if (others) {
                    error(ahead, 26);
                }
                r = arrays ? changed(s, l, self, first) : r;
                break;
            case 21:
                if (self.primitive()) {
                    error(ahead, 26);
                }
                for (int o : self.labels) {
                    for (String key : keysOf(first)) {
                        Value f = s.rows.containsKey(o) ? s.rows.get(o).fields.get(key) : new Value();
                        r.join(f.empty() ? new Value() : word("true"));
                        r.join(f.absent ? word("false") : new Value());
                    }
                }
                break;
            case 22:
                if (!self.words.isEmpty() || self.number != null || !self.labels.isEmpty()) {
                    error(ahead, 26);
                }
                r = self.string != null ? string(ALL) : r;
                break;
            default:
                add(s, l + 11, l - 9, args.isEmpty() ? null : "message", args.isEmpty() ? null : text(first));
                r = label(l + 11);
                break;
        }
        on(s, r);
    }

    private Value changed(State s, int l, Value self, Value first) {
        Value r = l == 18 ? number(ALL) : word("undefined");
        Value gone = new Value();
        gone.absent = true;
        for (int o : self.labels) {
            if (!array(o) || !s.rows.containsKey(o)) {
                continue;
            }
            Map<String, Value> f = s.rows.get(o).fields;
            for (String key : keys) {
                if (l == 19 && index(key)) {
                    r.join(f.get(key));
                    f.get(key).join(gone);
                } else if (l == 18 && (index(key) || key.equals("100"))) {
                    f.get(key).join(first);
                }
            }
            f.get("length").join(number(ALL));
        }
        r.absent = false;
        return r;
    }

    // ---- what can be looked at

    private String tell(Value v) {
        if (v == null) {
            return "0 0 0 0 0";
        }
        long flags = v.absent ? 512 : 0;
        String[] words = {"undefined", "null", "true", "false", "NaN"};
        for (int i = 0; i < 5; i++) {
            flags |= v.words.contains(words[i]) ? 1L << i : 0;
        }
        flags |= v.number == ALL ? 64 : v.number != null ? 32 : 0;
        flags |= v.string == ALL ? 256 : v.string != null ? 128 : 0;
        return flags + " " + (v.number instanceof Integer ? v.number : 0) + " "
            + (v.string != ALL && v.string != null ? reader.names.get(v.string) : 0) + " " + tell(v.labels);
    }

    private static String tell(TreeSet<Integer> labels) {
        long lo = 0;
        long hi = 0;
        for (int l : labels) {
            lo |= l < 64 ? 1L << l : 0;
            hi |= l >= 64 ? 1L << l - 64 : 0;
        }
        return lo + " " + hi;
    }

    String tellInstruction(int k) {
        State s = states[k];
        if (s == null) {
            return "not reached";
        }
        StringBuilder t = new StringBuilder("warns " + warned[k] + " this " + tell(s.self) + " scope " + tell(s.scope));
        for (Value v : s.stack) {
            t.append("\n  set " + tell(v));
        }
        for (int l = 0; l < reader.labels(); l++) {
            Row r = s.rows.get(l);
            if (r != null) {
                t.append("\n  label " + l + " " + tell(r.proto) + " " + (r.mayBeNull ? 1 : 0) + " " + tell(r.link));
                for (int n = 0; n < keys.size(); n++) {
                    t.append(" / " + tell(r.fields.get(keys.get(n))));
                }
            }
        }
        return t.toString();
    }

    String tellResult(int f, int how) {
        State s = states[count + 2 * f + how];
        return s == null ? tell((Value) null) : tell(s.stack.get(0));
    }
}
