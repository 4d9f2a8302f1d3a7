/** Promises 1 to 6: the tape, reading and its faults, counts and letters. */
public final class TextTest {
    private TextTest() {
    }

    public static void main(String[] args) {
        newObject();
        Kit.end("TextTest");
    }

    private static void newObject() {
        ScriptTypes x = new ScriptTypes();
        for (int what = 0; what <= 11; what++) {
            Kit.check("count " + what + " of a new object", x.count(what), 0);
        }
        Kit.check("count 12 of a new object", x.count(12), -1);
    }
}
