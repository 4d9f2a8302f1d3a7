import java.util.ArrayList;
import java.util.List;

/** What the tests share: feeding a text, naming what is looked at, and counting what is wrong. */
final class Kit {
    static final String[] OPERATIONS = {
        "CONSTANT", "LOAD", "STORE", "GLOBAL", "SETGLOBAL", "TYPEGLOBAL", "THIS", "OBJECT", "ARRAY", "FUNCTION",
        "GET", "PUT", "DELETE", "UNARY", "BINARY", "CALL", "NEW", "DROP", "COPY", "COPYTWO", "UNDER", "JUMP",
        "UNLESS", "AND", "OR", "RETURN", "THROW", "TRY", "LEAVE", "NAMESOF", "NEXT"};

    private static int wrong;
    private static String sentence = "";
    private static String told = "";
    private static ScriptTypes reader;
    private static int readerCalls;

    private Kit() {
    }

    /** The sentence of the document that the next checks are about; it is told once, with the first of them that fails. */
    static void sentence(String words) {
        sentence = words;
    }

    static void check(String what, Object got, Object want) {
        if (!String.valueOf(got).equals(String.valueOf(want))) {
            wrong++;
            if (!sentence.equals(told)) {
                told = sentence;
                System.out.println("-- " + sentence);
            }
            System.out.println(what + ": " + got + ", due is " + want);
        }
    }

    static void end(String test) {
        System.out.println(test + ": " + (wrong == 0 ? "all as due" : wrong + " wrong"));
        if (wrong != 0) {
            System.exit(1);
        }
    }

    /** The tape gets the text's bytes (0 to 255) behind what it has; false if they find no room. */
    static boolean feed(ScriptTypes x, String text) {
        int[] bytes = new int[(text.length() + 19) / 20 * 20];
        for (int i = 0; i < text.length(); i++) {
            bytes[i] = text.charAt(i) & 255;
        }
        int[] word = new int[5];
        for (int at = 0; at < bytes.length; at += 20) {
            for (int w = 0; w < 5; w++) {
                int i = at + 4 * w;
                word[w] = bytes[i] << 24 | bytes[i + 1] << 16 | bytes[i + 2] << 8 | bytes[i + 3];
            }
            if (x.feed(word[0], word[1], word[2], word[3], word[4]) == ScriptTypes.NONE) {
                return false;
            }
        }
        x.back(bytes.length - text.length());
        return true;
    }

    static int read(ScriptTypes x, String text) {
        x.back(x.count(5));
        feed(x, text);
        return x.read();
    }

    static ScriptTypes script(String text) {
        ScriptTypes x = new ScriptTypes();
        int fault = read(x, text);
        if (fault != 0) {
            check("fault of " + text, fault, 0);
        }
        return x;
    }

    // An object for so many calls more; a new one when the last one's 512 would not do.
    private static ScriptTypes reader(int calls) {
        if (reader == null || readerCalls + calls > 512) {
            reader = new ScriptTypes();
            readerCalls = 0;
        }
        readerCalls += calls;
        return reader;
    }

    /** The fault and the line, as "2:1"; "0" without one. */
    static String fault(String text) {
        int fault = read(reader((text.length() + 19) / 20 + 4), text);
        return fault == 0 ? "0" : (fault & 7) + ":" + (fault >> 3);
    }

    static String string(ScriptTypes x, int s) {
        StringBuilder text = new StringBuilder();
        for (int k = 0; x.letter(s, k) != ScriptTypes.NONE; k++) {
            text.append((char) x.letter(s, k));
        }
        return text.toString();
    }

    static int name(ScriptTypes x, String text) {
        for (int s = 0; s < x.count(2); s++) {
            if (string(x, s).equals(text)) {
                return s;
            }
        }
        return -1;
    }

    /** Instruction k as one word and what it tells. */
    static String instruction(ScriptTypes x, int k) {
        int op = x.instruction(k, 0);
        int a = x.instruction(k, 1);
        int b = x.instruction(k, 2);
        switch (op) {
            case 0:
                return a == 5 ? "" + b : a == 6 ? "'" + string(x, b) + "'" : new String[] {"undefined", "null", "true", "false", "NaN"}[a];
            case 1: return "LOAD" + a + ":" + string(x, b);
            case 2: return "STORE" + a + ":" + string(x, b);
            case 3: return "GLOBAL:" + string(x, b);
            case 4: return "SETGLOBAL:" + string(x, b);
            case 5: return "TYPEGLOBAL:" + string(x, b);
            case 7:
            case 8:
            case 9:
            case 13:
            case 14:
            case 15:
            case 21:
            case 22:
            case 23:
            case 24:
            case 27:
            case 30: return OPERATIONS[op] + a;
            case 16: return "NEW" + a + ":" + b;
            default: return OPERATIONS[op];
        }
    }

    static String code(ScriptTypes x) {
        List<String> words = new ArrayList<>();
        for (int k = 0; k < x.count(0); k++) {
            words.add(instruction(x, k));
        }
        return String.join(" ", words);
    }

    /** The places where a or b is not 0 though none is told. */
    static String stray(ScriptTypes x) {
        StringBuilder places = new StringBuilder();
        for (int k = 0; k < x.count(0); k++) {
            int op = x.instruction(k, 0);
            boolean hasA = op <= 2 || op >= 7 && op <= 9 || op >= 13 && op <= 16 || op >= 21 && op <= 24 || op == 27 || op == 30;
            boolean hasB = op == 0 ? x.instruction(k, 1) >= 5 : op <= 5 || op == 16;
            if (!hasA && x.instruction(k, 1) != 0 || !hasB && x.instruction(k, 2) != 0) {
                places.append(k).append(' ');
            }
        }
        return places.toString();
    }

    static String code(String text) {
        return code(script(text));
    }

    /** Runs the script to its end, or to so many steps. */
    static ScriptTypes run(String text) {
        ScriptTypes x = script(text);
        x.begin();
        for (int i = 0; i < 100 && x.count(6) == 1; i++) {
            x.run(2000);
        }
        return x;
    }

    /** A value, from what value() tells by 0 and 1. */
    static String value(ScriptTypes x, int kind, int datum) {
        switch (kind) {
            case 5: return "" + datum;
            case 6: return "'" + string(x, datum) + "'";
            case 7: return "#" + datum;
            case 8: return "list" + datum;
            default: return kind < 0 ? "none" : new String[] {"undefined", "null", "true", "false", "NaN"}[kind];
        }
    }

    static String printedLine(ScriptTypes x, int i) {
        StringBuilder text = new StringBuilder();
        for (int k = 0; x.printed(i, k) != ScriptTypes.NONE; k++) {
            text.append((char) x.printed(i, k));
        }
        return text.toString();
    }

    /** What a script printed, with / between, and how it ended. */
    static String output(ScriptTypes x) {
        StringBuilder text = new StringBuilder();
        for (int i = 0; i < x.count(10); i++) {
            text.append(printedLine(x, i)).append('/');
        }
        String[] how = {"not begun", "goes on", "ended", "uncaught ", "no room"};
        text.append(how[x.count(6)]);
        if (x.count(6) == 3) {
            text.append(value(x, x.uncaught(0), x.uncaught(1)));
        }
        return text.toString();
    }

    static String output(String text) {
        return output(run(text));
    }

    /** A set, from what slot(), field() and result() tell by 0 to 4. */
    static String set(ScriptTypes x, long flags, long number, long name, long lo, long hi) {
        StringBuilder text = new StringBuilder();
        String[] words = {"undefined", "null", "true", "false", "NaN", "" + number, "NUM", "'" + string(x, (int) name) + "'", "STR", "absent"};
        for (int i = 0; i < words.length; i++) {
            if ((flags >> i & 1) != 0) {
                text.append(text.length() == 0 ? "" : " ").append(words[i]);
            }
        }
        for (int l = 0; l < 128; l++) {
            if (((l < 64 ? lo >>> l : hi >>> l - 64) & 1) != 0) {
                text.append(text.length() == 0 ? "" : " ").append("L").append(l);
            }
        }
        return text.toString();
    }

    static String slot(ScriptTypes x, int k, int i) {
        return set(x, x.slot(k, i, 0), x.slot(k, i, 1), x.slot(k, i, 2), x.slot(k, i, 3), x.slot(k, i, 4));
    }

    static String field(ScriptTypes x, int k, int l, int n) {
        return set(x, x.field(k, l, n, 0), x.field(k, l, n, 1), x.field(k, l, n, 2), x.field(k, l, n, 3), x.field(k, l, n, 4));
    }

    static String field(ScriptTypes x, int k, int l, String name) {
        return field(x, k, l, name(x, name));
    }

    static String result(ScriptTypes x, int f, int how) {
        return set(x, x.result(f, how, 0), x.result(f, how, 1), x.result(f, how, 2), x.result(f, how, 3), x.result(f, how, 4));
    }

    /** Calls what may throw: its answer, or the exception's name. */
    interface Call {
        Object answer();
    }

    static String outcome(Call call) {
        try {
            return String.valueOf(call.answer());
        } catch (IllegalArgumentException | IllegalStateException e) {
            return e.getClass().getSimpleName();
        }
    }
}
