import java.util.ArrayList;
import java.util.LinkedHashMap;
import java.util.List;
import java.util.Map;

/** A second machine, of objects and maps: what the tests hold against the first one. */
final class RefMachine {
    private static final class NoRoom extends RuntimeException {
        private static final long serialVersionUID = 1L;
    }

    /** A value that was thrown by the script. */
    private static final class Thrown extends RuntimeException {
        private static final long serialVersionUID = 1L;
        final transient Object value;

        Thrown(Object value) {
            this.value = value;
        }
    }

    private enum Word { UNDEFINED, NULL, NAN }

    private static final class Property {
        Object value;

        Property(Object value) {
            this.value = value;
        }
    }

    private static final class Thing {
        final int number;
        final int pair;
        final Thing proto;
        Thing link;
        final int sort;
        int function = -1;
        final LinkedHashMap<String, Property> properties = new LinkedHashMap<>();

        Thing(int number, int pair, Thing proto, int sort) {
            this.number = number;
            this.pair = pair;
            this.proto = proto;
            this.sort = sort;
        }
    }

    private static final class Names {
        final Thing of;
        final List<Property> left = new ArrayList<>();
        final List<String> names = new ArrayList<>();

        Names(Thing of) {
            this.of = of;
        }

        boolean isThere(int i) {
            return of.properties.get(names.get(i)) == left.get(i);
        }

        Names copy() {
            Names copy = new Names(of);
            copy.left.addAll(left);
            copy.names.addAll(names);
            return copy;
        }
    }

    private static final class Frame {
        int function;
        Thing scope;
        Object self = Word.UNDEFINED;
        int place;
        Thing made;
        final List<Object> stack = new ArrayList<>();
        final List<int[]> tries = new ArrayList<>();

        Frame copy() {
            Frame f = new Frame();
            f.function = function;
            f.scope = scope;
            f.self = self;
            f.place = place;
            f.made = made;
            for (Object o : stack) {
                f.stack.add(o instanceof Names ? ((Names) o).copy() : o);
            }
            f.tries.addAll(tries);
            return f;
        }

        Object pop() {
            return stack.remove(stack.size() - 1);
        }

        Object top() {
            return stack.get(stack.size() - 1);
        }

        void push(Object o) {
            stack.add(o);
        }
    }

    private final RefReader script;
    private final List<Thing> things = new ArrayList<>();
    private final Map<String, Integer> strings = new LinkedHashMap<>();
    private final List<String> nameOf = new ArrayList<>();
    private final Map<Integer, Thing> latest = new LinkedHashMap<>();
    private List<Frame> frames = new ArrayList<>();
    private final List<String> printed = new ArrayList<>();
    private Object thrown;
    private int status = 1;
    private int steps;

    RefMachine(RefReader script) {
        this.script = script;
        strings.putAll(script.names);
        nameOf.addAll(script.names.keySet());
        Thing[] t = new Thing[23];
        t[1] = new Thing(1, 1, null, 0);
        t[0] = new Thing(0, 0, t[1], 0);
        for (int i = 2; i < 23; i++) {
            t[i] = new Thing(i, i, i >= 9 ? t[2] : i >= 6 ? t[5] : t[1], i >= 9 ? 1 : 0);
        }
        for (Thing o : t) {
            things.add(o);
        }
        String[] globals = "print Object Array String isNaN Error TypeError ReferenceError RangeError".split(" ");
        for (int i = 0; i < globals.length; i++) {
            put(t[0], globals[i], t[9 + i]);
        }
        put(t[1], "constructor", t[10]);
        put(t[1], "hasOwnProperty", t[21]);
        put(t[2], "call", t[20]);
        put(t[3], "constructor", t[11]);
        put(t[3], "push", t[18]);
        put(t[3], "pop", t[19]);
        put(t[4], "constructor", t[12]);
        put(t[4], "charAt", t[22]);
        for (int i = 0; i < 4; i++) {
            put(t[5 + i], "constructor", t[14 + i]);
            put(t[5 + i], "name", globals[5 + i]);
            put(t[14 + i], "prototype", t[5 + i]);
        }
        put(t[10], "prototype", t[1]);
        put(t[11], "prototype", t[3]);
        put(t[12], "prototype", t[4]);
        frames.add(new Frame());
    }

    // ---- making

    private String string(String text) {
        String cut = text.length() > 60 ? text.substring(0, 60) : text;
        if (!strings.containsKey(cut)) {
            if (strings.size() == 400) {
                throw new NoRoom();
            }
            strings.put(cut, strings.size());
        }
        return cut;
    }

    private Thing thing(int pair, Thing proto, int sort) {
        if (things.size() == 300) {
            throw new NoRoom();
        }
        Thing t = new Thing(things.size(), pair, proto, sort);
        things.add(t);
        latest.put(pair, t);
        return t;
    }

    private Thing array(int pair) {
        Thing t = thing(pair, things.get(3), 2);
        put(t, "length", 0);
        return t;
    }

    private void put(Thing t, String name, Object value) {
        Property p = t.properties.get(name);
        if (p != null) {
            p.value = value;
            return;
        }
        int all = 0;
        for (Thing o : things) {
            all += o.properties.size();
        }
        if (all >= 3000) {
            throw new NoRoom();
        }
        t.properties.put(name, new Property(value));
    }

    private Thrown error(int label) {
        return new Thrown(thing(label, things.get(label - 20), 0));
    }

    // ---- values

    private static String text(Object v) {
        if (v instanceof Thing) {
            return "[object]";
        }
        return v == Word.NAN ? "NaN" : v instanceof Word ? v.toString().toLowerCase() : v.toString();
    }

    private String name(Object v) {
        return string(text(v));
    }

    private static Long number(Object v) {
        if (v == Word.NULL || v == Boolean.FALSE) {
            return 0L;
        }
        if (v == Boolean.TRUE) {
            return 1L;
        }
        if (v instanceof Integer) {
            return (long) (Integer) v;
        }
        if (v instanceof String) {
            String s = (String) v;
            if (s.isEmpty()) {
                return 0L;
            }
            if (s.matches("-?[0-9]{1,10}")) {
                long n = Long.parseLong(s);
                return n == (int) n ? n : null;
            }
        }
        return null;
    }

    private static int bits(Object v) {
        Long n = number(v);
        return n == null ? 0 : (int) (long) n;
    }

    private static boolean truth(Object v) {
        if (v instanceof Word || v.equals(false) || v.equals(0) || v.equals("")) {
            return false;
        }
        return true;
    }

    private static boolean same(Object v, Object w) {
        return v != Word.NAN && (v instanceof Thing ? v == w : v.equals(w));
    }

    private static String sort(Object v) {
        if (v == Word.UNDEFINED || v == Word.NULL) {
            return "none";
        }
        return v instanceof Integer || v == Word.NAN ? "number" : v.getClass().getSimpleName();
    }

    private static boolean alike(Object v, Object w) {
        if (sort(v).equals(sort(w))) {
            return sort(v).equals("none") || same(v, w);
        }
        if (v instanceof Thing || w instanceof Thing || sort(v).equals("none") || sort(w).equals("none")) {
            return false;
        }
        return number(v) != null && number(v).equals(number(w));
    }

    private static String type(Object v) {
        if (v == Word.UNDEFINED) {
            return "undefined";
        }
        if (v == Word.NULL) {
            return "object";
        }
        if (v instanceof Thing) {
            return ((Thing) v).sort == 1 ? "function" : "object";
        }
        return sort(v).toLowerCase();
    }

    private static Object orNaN(Long n) {
        return n == null ? Word.NAN : (Object) (int) (long) n;
    }

    private Object binary(int a, Object v, Object w) {
        Long m = number(v);
        Long n = number(w);
        boolean none = m == null || n == null;
        switch (a) {
            case 0:
                if (v instanceof String || v instanceof Thing || w instanceof String || w instanceof Thing) {
                    return string(text(v) + text(w));
                }
                return none ? Word.NAN : orNaN(m + n);
            case 1: return none ? Word.NAN : orNaN(m - n);
            case 2: return none ? Word.NAN : orNaN(m * n);
            case 3: return none || n == 0 ? Word.NAN : orNaN(m / n);
            case 4: return none || n == 0 ? Word.NAN : orNaN(m % n);
            case 5: return bits(v) << bits(w);
            case 6: return bits(v) >> bits(w);
            case 7: return bits(v) >>> bits(w);
            case 8: return bits(v) & bits(w);
            case 9: return bits(v) | bits(w);
            case 10: return bits(v) ^ bits(w);
            case 11: return alike(v, w);
            case 12: return !alike(v, w);
            case 13: return same(v, w);
            case 14: return !same(v, w);
            default: break;
        }
        if (a <= 18) {
            boolean texts = v instanceof String && w instanceof String;
            if (!texts && none) {
                return false;
            }
            int c = texts ? ((String) v).compareTo((String) w) : m.compareTo(n);
            return a == 15 ? c < 0 : a == 16 ? c > 0 : a == 17 ? c <= 0 : c >= 0;
        }
        if (a == 19) {
            String name = name(v);
            if (!(w instanceof Thing)) {
                throw error(26);
            }
            return search((Thing) w, name) != null;
        }
        Object p = w instanceof Thing && ((Thing) w).sort == 1 ? value(search((Thing) w, "prototype")) : null;
        if (!(p instanceof Thing)) {
            throw error(26);
        }
        for (Thing t = v instanceof Thing ? ((Thing) v).proto : null; t != null; t = t.proto) {
            if (t == p) {
                return true;
            }
        }
        return false;
    }

    private static Object value(Property p) {
        return p == null ? Word.UNDEFINED : p.value;
    }

    private static Property search(Thing t, String name) {
        for (Thing at = t; at != null; at = at.proto) {
            if (at.properties.containsKey(name)) {
                return at.properties.get(name);
            }
        }
        return null;
    }

    // ---- steps

    int run(int n) {
        int done = 0;
        while (done < n && status == 1) {
            done++;
            steps++;
            List<Frame> before = new ArrayList<>();
            for (Frame f : frames) {
                before.add(f.copy());
            }
            try {
                step();
            } catch (Thrown t) {
                unwind(t.value);
            } catch (NoRoom e) {
                frames = before;
                status = 4;
            }
        }
        return done;
    }

    private Frame frame() {
        return frames.get(frames.size() - 1);
    }

    private void unwind(Object value) {
        while (!frames.isEmpty()) {
            Frame f = frame();
            if (!f.tries.isEmpty()) {
                int[] t = f.tries.remove(f.tries.size() - 1);
                while (f.stack.size() > t[1]) {
                    f.pop();
                }
                f.push(value);
                f.place = t[0];
                return;
            }
            frames.remove(frames.size() - 1);
        }
        status = 3;
        thrown = value;
    }

    private void step() {
        Frame f = frame();
        int[] i = script.code.get(f.place);
        int a = i[1];
        String b = nameOf.get(Math.min(i[2], nameOf.size() - 1));
        f.place++;
        Thing scope = f.scope;
        for (int far = 0; (i[0] == 1 || i[0] == 2) && far < a; far++) {
            scope = scope.link;
        }
        int sites = 29 + 6 * (script.functions.size() - 1);
        switch (i[0]) {
            case 0: f.push(a == 5 ? (Object) i[2] : a == 6 ? b : new Object[] {Word.UNDEFINED, Word.NULL, true, false, Word.NAN}[a]); break;
            case 1: f.push(value(scope.properties.get(b))); break;
            case 2: put(scope, b, f.top()); break;
            case 3:
                if (!things.get(0).properties.containsKey(b)) {
                    throw error(27);
                }
                f.push(things.get(0).properties.get(b).value);
                break;
            case 4: put(things.get(0), b, f.top()); break;
            case 5: f.push(type(value(things.get(0).properties.get(b)))); break;
            case 6: f.push(f.self); break;
            case 7: f.push(thing(sites + 2 * a, things.get(1), 0)); break;
            case 8: f.push(array(sites + 2 * a)); break;
            case 9: f.push(function(a, f.scope)); break;
            case 10: get(f); break;
            case 11: store(f); break;
            case 12: delete(f); break;
            case 13: unary(f, a); break;
            case 14: {
                Object w = f.pop();
                f.push(binary(a, f.pop(), w));
                break;
            }
            case 15: call(f, a); break;
            case 16: construct(f, a, sites + 2 * i[2]); break;
            default: flow(f, i[0], a); break;
        }
    }

    private Thing function(int g, Thing scope) {
        int pair = 29 + 6 * (g - 1);
        Thing f = thing(pair + 2, things.get(2), 1);
        f.function = g;
        f.link = scope;
        Thing p = thing(pair + 4, things.get(1), 0);
        put(f, "prototype", p);
        put(p, "constructor", f);
        return f;
    }

    private void unary(Frame f, int a) {
        Object v = f.pop();
        Long n = number(v);
        switch (a) {
            case 0: f.push(orNaN(n)); break;
            case 1: f.push(n == null ? Word.NAN : orNaN(-n)); break;
            case 2: f.push(~bits(v)); break;
            case 3: f.push(!truth(v)); break;
            default: f.push(type(v)); break;
        }
    }

    private void get(Frame f) {
        String name = name(f.pop());
        Object o = f.pop();
        if (o == Word.UNDEFINED || o == Word.NULL) {
            throw error(26);
        }
        if (o instanceof String) {
            f.push(name.equals("length") ? (Object) ((String) o).length() : value(search(things.get(4), name)));
        } else {
            f.push(o instanceof Thing ? value(search((Thing) o, name)) : Word.UNDEFINED);
        }
    }

    private void store(Frame f) {
        Object v = f.pop();
        String name = name(f.pop());
        Object o = f.pop();
        if (o == Word.UNDEFINED || o == Word.NULL) {
            throw error(26);
        }
        if (o instanceof Thing) {
            Thing t = (Thing) o;
            if (t.sort == 2 && name.equals("length")) {
                f.push(v);
                return;
            }
            put(t, name, v);
            if (t.sort == 2 && name.matches("[0-9]|[1-9][0-9]")) {
                int index = Integer.parseInt(name);
                if (index >= (Integer) t.properties.get("length").value) {
                    put(t, "length", index + 1);
                }
            }
        }
        f.push(v);
    }

    private void delete(Frame f) {
        String name = name(f.pop());
        Object o = f.pop();
        if (o == Word.UNDEFINED || o == Word.NULL) {
            throw error(26);
        }
        boolean stays = o instanceof Thing && ((Thing) o).sort == 2 && name.equals("length");
        if (o instanceof Thing && !stays) {
            ((Thing) o).properties.remove(name);
        }
        f.push(!stays);
    }

    private void flow(Frame f, int op, int a) {
        int n = f.stack.size();
        switch (op) {
            case 17: f.pop(); break;
            case 18: f.push(f.top()); break;
            case 19:
                f.push(f.stack.get(n - 2));
                f.push(f.stack.get(n - 1));
                break;
            case 20: f.stack.add(n - 3, f.top()); break;
            case 21: f.place = a; break;
            case 22:
                if (!truth(f.pop())) {
                    f.place = a;
                }
                break;
            case 23:
            case 24:
                if (truth(f.top()) == (op == 24)) {
                    f.place = a;
                } else {
                    f.pop();
                }
                break;
            case 25: {
                Object v = f.pop();
                frames.remove(frames.size() - 1);
                if (frames.isEmpty()) {
                    status = 2;
                } else {
                    frame().push(f.made != null && !(v instanceof Thing) ? f.made : v);
                }
                break;
            }
            case 26: throw new Thrown(f.pop());
            case 27: f.tries.add(new int[] {a, n}); break;
            case 28: f.tries.remove(f.tries.size() - 1); break;
            case 29: {
                Object o = f.pop();
                Names list = new Names(o instanceof Thing ? (Thing) o : null);
                if (o instanceof Thing) {
                    for (Map.Entry<String, Property> e : ((Thing) o).properties.entrySet()) {
                        if (((Thing) o).sort != 2 || !e.getKey().equals("length")) {
                            list.names.add(e.getKey());
                            list.left.add(e.getValue());
                        }
                    }
                }
                f.push(list);
                break;
            }
            default: {
                Names list = (Names) f.top();
                while (!list.names.isEmpty() && !list.isThere(0)) {
                    list.names.remove(0);
                    list.left.remove(0);
                }
                if (list.names.isEmpty()) {
                    f.pop();
                    f.place = a;
                } else {
                    list.left.remove(0);
                    f.push(list.names.remove(0));
                }
                break;
            }
        }
    }

    // ---- calls

    private void call(Frame f, int a) {
        List<Object> args = take(f, a);
        Object callee = f.pop();
        Object self = f.pop();
        callee(f, callee, self, args);
    }

    private List<Object> take(Frame f, int a) {
        List<Object> args = new ArrayList<>(f.stack.subList(f.stack.size() - a, f.stack.size()));
        for (int i = 0; i < a; i++) {
            f.pop();
        }
        return args;
    }

    private void callee(Frame f, Object callee, Object self, List<Object> args) {
        if (!(callee instanceof Thing) || ((Thing) callee).sort != 1) {
            throw error(26);
        }
        Thing t = (Thing) callee;
        if (t.function >= 0) {
            enter(t, self, args, null);
        } else if (t.number == 20) {
            Object first = args.isEmpty() ? Word.UNDEFINED : args.get(0);
            callee(f, self, first, args.isEmpty() ? args : args.subList(1, args.size()));
        } else {
            f.push(nativeCall(t.number, self, args));
        }
    }

    private void enter(Thing t, Object self, List<Object> args, Thing made) {
        if (frames.size() == 24) {
            throw error(28);
        }
        RefReader.Fn g = script.functions.get(t.function);
        Thing scope = thing(29 + 6 * (t.function - 1), null, 3);
        scope.link = t.link;
        for (int i = 0; i < g.params.size(); i++) {
            put(scope, g.params.get(i), i < args.size() ? args.get(i) : Word.UNDEFINED);
        }
        if (!g.declared && g.own != null && !g.params.contains(g.own)) {
            put(scope, g.own, t);
        }
        for (String name : g.vars) {
            if (!scope.properties.containsKey(name)) {
                put(scope, name, Word.UNDEFINED);
            }
        }
        Frame f = new Frame();
        f.function = g.id;
        f.scope = scope;
        f.self = made != null ? made : self;
        f.made = made;
        f.place = g.first;
        frames.add(f);
    }

    private void construct(Frame f, int a, int pair) {
        List<Object> args = take(f, a);
        Object callee = f.pop();
        Thing t = callee instanceof Thing ? (Thing) callee : null;
        if (t == null || t.sort != 1 || t.function < 0 && (t.number < 10 || t.number > 17 || t.number == 13)) {
            throw error(26);
        }
        if (t.function < 0) {
            f.push(nativeCall(t.number, Word.UNDEFINED, args));
            return;
        }
        Object p = value(search(t, "prototype"));
        Thing made = thing(pair, p instanceof Thing ? (Thing) p : things.get(1), 0);
        enter(t, made, args, made);
    }

    private Object nativeCall(int n, Object self, List<Object> args) {
        Object first = args.isEmpty() ? Word.UNDEFINED : args.get(0);
        boolean array = self instanceof Thing && ((Thing) self).sort == 2;
        if ((n == 18 || n == 19) && !array || n == 21 && !(self instanceof Thing) || n == 22 && !(self instanceof String)) {
            throw error(26);
        }
        int length = array ? (Integer) ((Thing) self).properties.get("length").value : 0;
        switch (n) {
            case 9: {
                String line = name(first);
                if (printed.size() < 100) {
                    printed.add(line);
                }
                return Word.UNDEFINED;
            }
            case 10: return thing(23, things.get(1), 0);
            case 11: return array(24);
            case 12: return args.isEmpty() ? "" : name(first);
            case 13: return number(first) == null;
            case 18:
                put((Thing) self, string("" + length), first);
                put((Thing) self, "length", Math.min(100, length + 1));
                return Math.min(100, length + 1);
            case 19: {
                if (length == 0) {
                    return Word.UNDEFINED;
                }
                Property p = ((Thing) self).properties.remove(string("" + (length - 1)));
                put((Thing) self, "length", length - 1);
                return value(p);
            }
            case 21: return ((Thing) self).properties.containsKey(name(first));
            case 22: {
                long at = bits(first);
                String s = (String) self;
                return string(at >= 0 && at < s.length() ? s.substring((int) at, (int) at + 1) : "");
            }
            default: {
                Thing error = thing(11 + n, things.get(n - 9), 0);
                if (!args.isEmpty()) {
                    put(error, "message", name(first));
                }
                return error;
            }
        }
    }

    // ---- what can be looked at

    private String tell(Object v) {
        if (v instanceof Names) {
            Names list = (Names) v;
            int left = 0;
            for (int i = 0; i < list.names.size(); i++) {
                left += list.isThere(i) ? 1 : 0;
            }
            return "8:" + left;
        }
        if (v instanceof Thing) {
            return "7:" + ((Thing) v).number;
        }
        if (v instanceof String) {
            return "6:" + strings.get(v);
        }
        if (v instanceof Integer) {
            return "5:" + v;
        }
        return (v instanceof Boolean ? (Boolean) v ? 2 : 3 : v == Word.UNDEFINED ? 0 : v == Word.NULL ? 1 : 4) + ":0";
    }

    String dump() {
        StringBuilder s = new StringBuilder();
        s.append(status + " " + steps + " " + things.size() + " " + strings.size() + " " + printed.size() + " " + frames.size() + "\n");
        for (int i = frames.size() - 1; i >= 0; i--) {
            Frame f = frames.get(i);
            s.append("frame " + f.function + " " + f.place + " " + f.stack.size() + " " + (f.scope == null ? -1 : f.scope.number) + " "
                + f.tries.size() + " " + tell(f.self));
            for (Object v : f.stack) {
                s.append(" " + tell(v));
            }
            s.append("\n");
        }
        for (Thing t : things) {
            boolean older = t.pair >= 29 && latest.get(t.pair) != t;
            s.append("object " + (older ? t.pair + 1 : t.pair) + " " + (t.proto == null ? -1 : t.proto.number) + " "
                + (t.link == null ? -1 : t.link.number) + " " + t.properties.size() + " " + t.sort);
            for (Map.Entry<String, Property> e : t.properties.entrySet()) {
                s.append(" " + strings.get(e.getKey()) + "=" + tell(e.getValue().value));
            }
            s.append("\n");
        }
        for (String line : printed) {
            s.append("line " + strings.get(line) + "\n");
        }
        for (String string : strings.keySet()) {
            s.append("string " + string + "\n");
        }
        s.append("thrown " + (status == 3 ? tell(thrown) : "-1:-1"));
        return s.toString();
    }
}
