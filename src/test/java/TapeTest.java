/** Promises 1 to 6: a new object, feed, cut, read, fault, drop. */
public final class TapeTest {
    private static final Trial T = new Trial();

    private static void newObject() {
        T.begin();
        for (int t = -1; t <= 8; t++) {
            int table = t;
            T.noIndex("told of a new object", () -> T.x.told(table, 0));
        }
        T.due("fault of a new object", T.x.fault(), 0);
        T.due("out of a new object", T.x.out(0), SpineTables.NONE);
        T.due("cut(0) of a new object", T.x.cut(0), 0);
        T.due("cut(1) of a new object", T.x.cut(1), SpineTables.NONE);
        T.noIndex("extract of a new object", () -> T.x.extract(0));
        T.noIndex("assemble of a new object", () -> T.x.assemble(0, 0));
        T.noIndex("write of a new object", () -> T.x.write(0));
        T.due("read of its tape", T.x.read(), 0);
        T.due("rows of that", T.x.told(0, 0), 0);
        T.due("bytes of that", T.x.told(0, 6), 0);
    }

    /** A new object has nothing of one that was made before it. */
    private static void objectsApart() {
        SpineTables one = T.x;
        T.due("a table", T.read("!!a"), 1);
        one.write(1);
        T.due("a fault", T.read("a"), -10);
        one.feed(0, 0, 0, 0, 0);
        newObject();
        T.due("the old one has its table", one.told(1, 6), 4);
        T.due("and its out", one.out(2), 'a');
        T.due("and its fault", one.fault(), 3);
        T.due("and its tape", one.cut(0), 20);
    }

    private static void feed() {
        T.begin();
        for (int n = 1; n <= 150; n++) {
            T.due("feed", T.x.feed(-1, 0, 1, Integer.MIN_VALUE, Integer.MAX_VALUE), 20 * n);
        }
        T.due("feed beyond 3000", T.x.feed(0, 0, 0, 0, 0), SpineTables.NONE);
        T.due("cut behind it", T.x.cut(2981), 19);
        T.due("feed to 3001", T.x.feed(0, 0, 0, 0, 0), SpineTables.NONE);
        T.due("cut to 2980", T.x.cut(2980), 1);
        T.due("feed to 3000", T.x.feed(0, 0, 0, 0, 0), 3000);
        T.begin();
        T.x.feed(0x21216162, 0x63646566, 0x6768696a, 0x6b6c6d6e, 0x6f707172);
        T.due("read", T.x.read(), 0);
        for (int k = 2; k < 20; k++) {
            T.due("byte " + k, T.x.token(0, 0, 0, k), 'a' + k - 2);
        }
    }

    private static void cut() {
        T.begin();
        T.x.feed(0x21212020, 0x20202020, 0x20202020, 0x20202020, 0x20202020);
        T.due("cut below 0", T.x.cut(-1), SpineTables.NONE);
        T.due("cut of the least number", T.x.cut(Integer.MIN_VALUE), SpineTables.NONE);
        T.due("cut of more", T.x.cut(21), SpineTables.NONE);
        T.due("cut of the greatest number", T.x.cut(Integer.MAX_VALUE), SpineTables.NONE);
        T.due("cut of all", T.x.cut(20), 0);
        T.due("cut", T.x.cut(3), 17);
        T.due("cut again", T.x.cut(4), SpineTables.NONE);
        T.due("read", T.x.read(), 0);
        T.due("what stayed", T.x.told(0, 6), 4);
    }

    private static void read() {
        T.begin();
        T.due("a right one", T.read("!!a"), 0);
        T.due("the tape is empty", T.x.cut(1), SpineTables.NONE);
        T.due("a wrong one", T.read("x\n"), -10);
        T.due("fault", T.x.fault(), 3);
        T.due("the tape is empty behind a fault", T.x.cut(1), SpineTables.NONE);
        T.due("an empty one", T.x.read(), 1);
        T.due("fault of a right one", T.x.fault(), 0);
        for (int t = 2; t < 8; t++) {
            T.due("one more", T.x.read(), t);
        }
        T.due("a wrong one, but full", T.read("x"), SpineTables.FULL);
        T.due("the tape is empty behind FULL", T.x.cut(1), SpineTables.NONE);
        T.due("fault is that of the latest one not FULL", T.x.fault(), 0);
        T.due("drop 5", T.x.drop(5), 0);
        T.due("drop 3", T.x.drop(3), 0);
        T.due("a wrong one", T.read("**kern"), -16);
        T.due("fault", T.x.fault(), 8);
        T.due("the least that is free", T.read("!!b"), 3);
        T.due("then the next", T.read("!!c"), 5);
        T.due("full", T.read("!!d"), SpineTables.FULL);
        T.due("fault stays", T.x.fault(), 0);
    }

    /** The code is that of the latest read() that was not FULL: one that is FULL leaves it. */
    private static void faultBehindFull() {
        T.begin();
        for (int t = 0; t < 7; t++) {
            T.due("read", T.read("!!"), t);
        }
        T.due("a fault", T.read("x"), -10);
        T.due("assemble takes the last place", T.x.assemble(0, 1), 7);
        T.due("full", T.read("!!"), SpineTables.FULL);
        T.due("the fault before it", T.x.fault(), 3);
        T.due("full with a fault", T.read("**a"), SpineTables.FULL);
        T.due("the fault before it", T.x.fault(), 3);
        T.due("the tape is empty", T.x.cut(1), SpineTables.NONE);
        T.x.drop(7);
        T.due("another fault", T.read("**a"), -13);
        T.due("its code", T.x.fault(), 8);
        T.due("a right one", T.read("!!"), 7);
        T.due("no fault", T.x.fault(), 0);
    }

    private static void drop() {
        T.begin();
        T.due("read", T.read(new String[] {"!!a", "**kern", "*-"}), 0);
        T.due("drop", T.x.drop(0), 3);
        T.noIndex("drop again", () -> T.x.drop(0));
        T.noIndex("drop(-1)", () -> T.x.drop(-1));
        T.noIndex("drop(8)", () -> T.x.drop(8));
        T.noIndex("drop of the greatest", () -> T.x.drop(Integer.MAX_VALUE));
        T.noIndex("walk of the dropped", () -> T.x.walk(0));
        T.due("the place is used again", T.read("!!x"), 0);
        T.due("and holds the new one alone", T.x.told(0, 0), 1);
        T.due("no kinds of the old one", T.x.told(0, 4), 0);
    }

    public static void main(String[] args) {
        newObject();
        objectsApart();
        feed();
        cut();
        read();
        faultBehindFull();
        drop();
        T.end("TapeTest");
    }
}
