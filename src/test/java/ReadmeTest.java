/** The example that README.md shows, with the answers that it tells. */
public final class ReadmeTest {
    private ReadmeTest() {
    }

    public static void main(String[] args) {
        ScriptTypes x = new ScriptTypes();
        Kit.check("feed", x.feed(0x7072696e, 0x74283129, 0, 0, 0), 20);
        Kit.check("back", x.back(12), 8);
        Kit.check("read", x.read(), 0);
        x.begin();
        Kit.check("run", x.run(2000), 7);
        Kit.check("printed", x.printed(0, 0), (int) '1');
        Kit.check("solve", x.solve(), 7);
        Kit.check("slot", x.slot(3, 0, 0), 1);
        Kit.end("ReadmeTest");
    }
}
