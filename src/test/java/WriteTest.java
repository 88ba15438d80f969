/** Promises 19 to 21: same, write, out. */
public final class WriteTest {
    private static final Trial T = new Trial();
    private static final int NONE = SpineTables.NONE;

    private static void same() {
        T.begin();
        T.read("!!a\n**kern\t**a\n*-\t*-\n");
        T.read("!!a\n**kern\t**a\n*-\t*-");
        T.read("!!b\n**kern\t**a\n*-\t*-");
        T.read("!!a\n**kern\n*-");
        T.read("");
        T.read("");
        for (int a = 0; a < 6; a++) {
            for (int b = 0; b < 6; b++) {
                boolean due = a == b || a <= 1 && b <= 1 || a >= 4 && b >= 4;
                T.due("same(" + a + ", " + b + ")", T.x.same(a, b), due);
            }
        }
        T.noIndex("same of no b", () -> T.x.same(0, 6) ? 1 : 0);
        T.noIndex("same of no a", () -> T.x.same(6, 0) ? 1 : 0);
        T.noIndex("same of none", () -> T.x.same(-1, -1) ? 1 : 0);
    }

    private static void writeAndOut() {
        T.begin();
        T.read("!!a\tb\n**kern\t**a\n4c 4d\t.\n*-\t*-");
        T.read("!!short");
        T.due("write", T.x.write(0), 31);
        T.dueText("written", T.written(0), "!!a\tb\n**kern\t**a\n4c 4d\t.\n*-\t*-\n");
        T.due("behind the last", T.x.out(31), NONE);
        T.due("ahead of the first", T.x.out(-1), NONE);
        T.due("the least number", T.x.out(Integer.MIN_VALUE), NONE);
        T.due("the greatest number", T.x.out(Integer.MAX_VALUE), NONE);
        T.noIndex("write of no table", () -> T.x.write(2));
        T.due("it stays then", T.x.out(30), 10);
        T.x.drop(0);
        T.due("it stays when the table goes", T.x.out(0), '!');
        T.due("write in its place", T.x.write(1), 8);
        T.due("the last byte", T.x.out(7), 10);
        for (int i = 8; i < 40; i++) {
            T.due("nothing of the longer one", T.x.out(i), NONE);
        }
        T.due("an empty one", T.read(""), 0);
        T.due("is written", T.x.write(0), 0);
        T.due("nothing is there", T.x.out(0), NONE);
    }

    private static void longest() {
        T.begin();
        T.due("3000 bytes without a last 10", T.read("!!" + Trial.repeat("x", 2998)), 0);
        T.due("told", T.x.told(0, 6), 3001);
        T.due("write", T.x.write(0), 3001);
        T.due("the last but one", T.x.out(2999), 'x');
        T.due("the last one", T.x.out(3000), 10);
        T.due("behind it", T.x.out(3001), NONE);
        T.due("token", T.x.token(0, 0, 0, 2999), 'x');
        T.due("behind the token", T.x.token(0, 0, 0, 3000), NONE);
    }

    public static void main(String[] args) {
        same();
        writeAndOut();
        longest();
        T.end("WriteTest");
    }
}
