/** What README.md tells of the use of the class. */
public final class ExampleTest {
    private static final Trial T = new Trial();

    private static void dueWritten(SpineTables x, int t, String text) {
        T.due("bytes of table " + t, x.write(t), text.length());
        for (int i = 0; i < text.length(); i++) {
            T.due("byte " + i, x.out(i), text.charAt(i));
        }
        T.due("behind the last byte", x.out(text.length()), SpineTables.NONE);
    }

    public static void main(String[] args) {
        SpineTables x = new SpineTables();
        T.due("feed", x.feed(0x2a2a6b65, 0x726e0a34, 0x630a2a2d, 0x0a000000, 0), 20);
        T.due("cut", x.cut(13), 7);
        int t = x.read();
        T.due("read", t, 0);
        T.due("fault", x.fault(), 0);
        T.due("walk", x.walk(t), SpineTables.NONE);
        T.due("time above", x.time(t, 2, 0), 1);
        T.due("time below", x.time(t, 2, 1), 4);
        T.due("length above", x.length(t, 1, 0, 0), 1);
        T.due("length below", x.length(t, 1, 0, 1), 4);
        int both = x.assemble(t, t);
        T.due("assemble", both, 1);
        dueWritten(x, both, "**kern\t**kern\n4c\t4c\n*-\t*\n*-\n");
        x.feed(0x6b65726e, 0, 0, 0, 0);
        T.due("cut", x.cut(4), 16);
        int voices = x.extract(both);
        T.due("extract", voices, 2);
        T.due("same", x.same(both, voices), true);
        dueWritten(x, t, "**kern\n4c\n*-\n");
        T.due("drop", x.drop(t), 3);
        T.end("ExampleTest");
    }
}
