/**
 * Tables of voices side by side, in lines of text. README.md tells how to use the class.
 *
 * Every table is held as it is written (Rows), with what is reckoned from it once, when it is made (Table);
 * the calls of the face only look things up. All rows of numbers are made once and used again.
 */
public final class SpineTables {
    public static final int NONE = -1, FULL = -2, UNKNOWN = -3, OTHER = -4, ROOM = -5;

    private static final int MOST_TABLES = 8;
    private static final int TAPE_ROOM = 3000;
    /** One more than the tape has: the last LINE of a text may lack its 10, and is written with it. */
    private static final int TEXT_ROOM = 3001;
    private static final int MOST_ROWS = 200;
    private static final int MOST_STRANDS = 12;
    /** Each TOKEN takes two bytes at least, with the 9 or 10 behind it. */
    private static final int MOST_TOKENS = 1500;
    private static final int MOST_TOKEN_BYTES = 40;
    private static final int MOST_KIND_BYTES = 8;
    /** Those of the first RECORD, and one for each further ROW. */
    private static final int MOST_KINDS = 212;
    private static final int TIME_LIMIT = 1000000000;
    private static final int FIRST_FAULT_ANSWER = -10;

    private static final int REMARK = 0, NOTES = 1, ACTS = 2, BARS = 3, DATA = 4;
    private static final int NOTHING = 0, SPLIT = 1, JOIN = 2, SWAP = 3, FINISH = 4, ADD = 5, BEGIN = 6;
    private static final int NO_RHYTHM = 0, RECIP = 1, KERN = 2;
    private static final byte[] RECIP_NAME = {'r', 'e', 'c', 'i', 'p'};
    private static final byte[] KERN_NAME = {'k', 'e', 'r', 'n'};

    private final byte[] tape = new byte[TAPE_ROOM];
    private int tapeSize = 0;
    private final byte[] written = new byte[TEXT_ROOM];
    private int writtenSize = 0;
    private int faultCode = 0;
    private final Table[] tables = new Table[MOST_TABLES];
    private final boolean[] taken = new boolean[MOST_TABLES];
    /** Where the next table is made: it changes places with the free one when it is right. */
    private Table bench = null;
    private final Reader reader = new Reader();
    private final Walker walker = new Walker();
    private final Lengths lengths = new Lengths();
    private final Assembler assembler = new Assembler();
    private final Extractor extractor = new Extractor();
    private final BarCheck barCheck = new BarCheck();

    public SpineTables() {
    }

    public int feed(int a, int b, int c, int d, int e) {
        if (tapeSize + 20 > TAPE_ROOM) {
            return NONE;
        }
        feedNumber(a);
        feedNumber(b);
        feedNumber(c);
        feedNumber(d);
        feedNumber(e);
        return tapeSize;
    }

    public int cut(int n) {
        if (n < 0 || n > tapeSize) {
            return NONE;
        }
        int gone = tapeSize - n;
        tapeSize = n;
        return gone;
    }

    public int read() {
        int size = tapeSize;
        tapeSize = 0;
        int place = freePlace();
        if (place == NONE) {
            return FULL;
        }
        Table fresh = clearBench();
        boolean right = reader.take(tape, size, fresh);
        faultCode = reader.code;
        if (!right) {
            return FIRST_FAULT_ANSWER - reader.place;
        }
        lengths.fill(fresh);
        walker.go(fresh);
        return keepBench(place);
    }

    public int fault() {
        return faultCode;
    }

    public int drop(int t) throws IndexOutOfBoundsException {
        Table table = tableAt(t);
        taken[t] = false;
        return table.rows.count;
    }

    public int told(int t, int what) throws IndexOutOfBoundsException, IllegalArgumentException {
        Table table = tableAt(t);
        switch (what) {
            case 0:
                return table.rows.count;
            case 1:
                return table.rows.count - table.rows.countOf(REMARK);
            case 2:
                return table.rows.countOf(DATA);
            case 3:
                return table.rows.countOf(BARS);
            case 4:
                return table.kinds;
            case 5:
                return table.rows.mostTokens();
            case 6:
                return table.rows.size;
            default:
                throw new IllegalArgumentException("what is 0 to 6");
        }
    }

    public int row(int t, int r, int what) throws IndexOutOfBoundsException, IllegalArgumentException {
        Rows rows = tableAt(t).rows;
        needRow(rows, r);
        needWhat(what, 1);
        return what == 0 ? rows.sortOf(r) : rows.tokensOf(r);
    }

    public int strand(int t, int r, int i, int what) throws IndexOutOfBoundsException, IllegalArgumentException {
        Table table = tableAt(t);
        int token = tokenAt(table.rows, r, i);
        needWhat(what, 3);
        switch (what) {
            case 0:
                return table.kindOf(token);
            case 1:
                return table.numberOf(token);
            case 2:
                return table.heldOf(token);
            default:
                return table.rows.actOf(token);
        }
    }

    public int kind(int t, int k, int i) throws IndexOutOfBoundsException {
        Table table = tableAt(t);
        if (k < 0 || k >= table.kinds) {
            throw new IndexOutOfBoundsException("no such kind");
        }
        return table.nameByte(k, i);
    }

    public int token(int t, int r, int i, int k) throws IndexOutOfBoundsException {
        Rows rows = tableAt(t).rows;
        needRow(rows, r);
        if (rows.sortOf(r) == REMARK) {
            if (i != 0) {
                throw new IndexOutOfBoundsException("a remark is one line");
            }
            return rows.byteWithin(rows.rowStart(r), rows.rowEnd(r), k);
        }
        int token = tokenAt(rows, r, i);
        return rows.byteWithin(rows.startOf(token), rows.endOf(token), k);
    }

    public int walk(int t) throws IndexOutOfBoundsException {
        return tableAt(t).misfitRow;
    }

    public int misfit(int t) throws IndexOutOfBoundsException {
        return tableAt(t).misfitCode;
    }

    public int time(int t, int r, int part)
            throws IndexOutOfBoundsException, IllegalArgumentException, IllegalStateException {
        Table table = tableAt(t);
        if (r < 0 || r > table.rows.count) {
            throw new IndexOutOfBoundsException("no such row");
        }
        needWhat(part, 1);
        needFit(table);
        return part == 0 ? table.timeAbove(r) : table.timeBelow(r);
    }

    public int length(int t, int r, int i, int part)
            throws IndexOutOfBoundsException, IllegalArgumentException, IllegalStateException {
        Table table = tableAt(t);
        int token = tokenAt(table.rows, r, i);
        needWhat(part, 1);
        if (table.rows.sortOf(r) != DATA || table.lengthAbove(token) == 0) {
            throw new IllegalStateException("the token has no length");
        }
        return part == 0 ? table.lengthAbove(token) : table.lengthBelow(token);
    }

    public int bars(int t) throws IndexOutOfBoundsException, IllegalStateException {
        Table table = tableAt(t);
        needFit(table);
        return barCheck.firstWrong(table, lengths);
    }

    public int extract(int t) throws IndexOutOfBoundsException {
        Table table = tableAt(t);
        int size = tapeSize;
        tapeSize = 0;
        int kind = table.kindNamed(tape, 0, size);
        if (kind == NONE || !extractor.isInFirst(table, kind)) {
            return UNKNOWN;
        }
        if (extractor.beganElsewhere(table, kind)) {
            return OTHER;
        }
        int place = freePlace();
        if (place == NONE) {
            return FULL;
        }
        Table fresh = clearBench();
        extractor.copy(table, kind, fresh.rows);
        fresh.settleAll();
        lengths.fill(fresh);
        walker.go(fresh);
        return keepBench(place);
    }

    public int assemble(int a, int b) throws IndexOutOfBoundsException {
        Table left = tableAt(a);
        Table right = tableAt(b);
        if (left.misfitRow != NONE || right.misfitRow != NONE) {
            return OTHER;
        }
        Table fresh = clearBench();
        if (!assembler.join(left, right, fresh.rows)) {
            return OTHER;
        }
        int place = freePlace();
        if (place == NONE) {
            return FULL;
        }
        if (fresh.rows.overfull || fresh.rows.size > TAPE_ROOM) {
            return ROOM;
        }
        fresh.settleAll();
        lengths.fill(fresh);
        walker.go(fresh);
        return keepBench(place);
    }

    public boolean same(int a, int b) throws IndexOutOfBoundsException {
        Rows left = tableAt(a).rows;
        Rows right = tableAt(b).rows;
        return left.isWrittenLike(right);
    }

    public int write(int t) throws IndexOutOfBoundsException {
        Rows rows = tableAt(t).rows;
        writtenSize = rows.copyTo(written);
        return writtenSize;
    }

    public int out(int i) {
        return i < 0 || i >= writtenSize || i >= TEXT_ROOM ? NONE : written[i];
    }

    private void feedNumber(int number) {
        for (int shift = 24; shift >= 0 && tapeSize < TAPE_ROOM; shift -= 8) {
            tape[tapeSize] = (byte) (number >> shift);
            tapeSize++;
        }
    }

    private int freePlace() {
        for (int t = 0; t < MOST_TABLES; t++) {
            if (!taken[t]) {
                return t;
            }
        }
        return NONE;
    }

    private Table clearBench() {
        if (bench == null) {
            bench = new Table();
        }
        bench.clear();
        return bench;
    }

    private int keepBench(int place) {
        Table old = tables[place];
        tables[place] = bench;
        taken[place] = true;
        bench = old;
        return place;
    }

    private Table tableAt(int t) {
        Table table = t < 0 || t >= MOST_TABLES || !taken[t] ? null : tables[t];
        if (table == null) {
            throw new IndexOutOfBoundsException("no such table");
        }
        return table;
    }

    private static void needRow(Rows rows, int r) {
        if (r < 0 || r >= rows.count) {
            throw new IndexOutOfBoundsException("no such row");
        }
    }

    private static int tokenAt(Rows rows, int r, int i) {
        int token = rows.tokenOf(r, i);
        if (token == NONE) {
            throw new IndexOutOfBoundsException("no such row or strand");
        }
        return token;
    }

    private static void needWhat(int what, int most) {
        if (what < 0 || what > most) {
            throw new IllegalArgumentException("what or part is not as told");
        }
    }

    private static void needFit(Table table) {
        if (table.misfitRow != NONE) {
            throw new IllegalStateException("the table does not fit");
        }
    }

    /** What a byte or a run of bytes is, told from itself alone. */
    private static final class Words {
        /** The 9 and 10 never come here: they end TOKENS. */
        static boolean isWrongByte(int b) {
            return b < 32 || b > 126;
        }

        static int sortOf(int firstByte) {
            switch (firstByte) {
                case '!':
                    return NOTES;
                case '*':
                    return ACTS;
                case '=':
                    return BARS;
                default:
                    return DATA;
            }
        }

        /** REMARK, or the SORT of a RECORD: the LINE's own first bytes tell it. */
        static int sortOfLine(byte[] text, int start, int end) {
            if (text == null || start < 0 || end > text.length || start >= end) {
                return DATA;
            }
            boolean isRemark = end - start >= 2 && text[start] == '!' && text[start + 1] == '!';
            return isRemark ? REMARK : sortOf(text[start]);
        }

        static boolean isRun(byte[] text, int start, int end) {
            return text != null && start >= 0 && start <= end && end <= text.length;
        }

        /** BEGIN is told of all that begins with **, whatever follows. */
        static int actOf(byte[] text, int start, int end) {
            if (text == null || start < 0 || end > text.length || end - start < 2 || text[start] != '*') {
                return NOTHING;
            }
            int second = text[start + 1];
            if (second == '*') {
                return BEGIN;
            }
            if (end - start != 2) {
                return NOTHING;
            }
            switch (second) {
                case '^':
                    return SPLIT;
                case 'v':
                    return JOIN;
                case 'x':
                    return SWAP;
                case '-':
                    return FINISH;
                case '+':
                    return ADD;
                default:
                    return NOTHING;
            }
        }

        static boolean tellsKind(byte[] text, int start, int end) {
            int letters = end - start - 2;
            if (actOf(text, start, end) != BEGIN || letters < 1 || letters > MOST_KIND_BYTES) {
                return false;
            }
            for (int at = start + 2; at < end; at++) {
                if (text[at] < 'a' || text[at] > 'z') {
                    return false;
                }
            }
            return true;
        }

        static boolean areAlike(byte[] x, int xStart, int xEnd, byte[] y, int yStart, int yEnd) {
            if (x == null || xStart < 0 || xEnd > x.length || y == null || yStart < 0 || yEnd > y.length) {
                return false;
            }
            if (xEnd - xStart != yEnd - yStart) {
                return false;
            }
            for (int n = 0; n < xEnd - xStart; n++) {
                if (x[xStart + n] != y[yStart + n]) {
                    return false;
                }
            }
            return true;
        }

        static int rhythmOf(byte[] text, int start, int end) {
            if (areAlike(text, start, end, RECIP_NAME, 0, RECIP_NAME.length)) {
                return RECIP;
            }
            return areAlike(text, start, end, KERN_NAME, 0, KERN_NAME.length) ? KERN : NO_RHYTHM;
        }
    }

    /** The bytes of a table as it is written, and where its ROWS and TOKENS stand in them. */
    private static final class Rows {
        final byte[] text = new byte[TEXT_ROOM];
        private final int[] starts = new int[MOST_ROWS + 1];
        private final int[] sorts = new int[MOST_ROWS];
        private final int[] firsts = new int[MOST_ROWS + 1];
        private final int[] tokenStarts = new int[MOST_TOKENS];
        private final int[] tokenEnds = new int[MOST_TOKENS];
        private final int[] acts = new int[MOST_TOKENS];
        int size = 0;
        int count = 0;
        private int tokens = 0;
        /** More came than there is room for: what is here is not whole, and nothing more is taken. */
        boolean overfull = false;

        void clear() {
            size = 0;
            count = 0;
            tokens = 0;
            overfull = false;
            starts[0] = 0;
            firsts[0] = 0;
        }

        void openRow() {
            if (count >= MOST_ROWS) {
                overfull = true;
            }
        }

        void putToken(byte[] from, int start, int end) {
            if (!openToken()) {
                return;
            }
            putBytes(from, start, end);
            closeToken();
        }

        void putLone(int b) {
            if (!openToken()) {
                return;
            }
            putByte(b);
            closeToken();
        }

        void putLones(int b, int times) {
            for (int n = 0; n < times; n++) {
                putLone(b);
            }
        }

        void putTokensOf(Rows from, int r) {
            for (int i = 0; i < from.tokensOf(r); i++) {
                int token = from.tokenOf(r, i);
                putToken(from.text, from.startOf(token), from.endOf(token));
            }
        }

        void putRemark(byte[] from, int start, int end) {
            openRow();
            putBytes(from, start, end);
            closeRow();
        }

        /**
         * What the ROW is, its LINE tells as it stands here: TOKENS of NOTES that come without those that stood
         * ahead of them may be a REMARK, which has no TOKENS.
         */
        void closeRow() {
            putByte(10);
            if (!overfull && count < MOST_ROWS) {
                sorts[count] = Words.sortOfLine(text, starts[count], size - 1);
                if (sorts[count] == REMARK) {
                    tokens = firsts[count];
                }
                count++;
                starts[count] = size;
                firsts[count] = tokens;
            }
        }

        private boolean openToken() {
            if (overfull || tokens >= MOST_TOKENS || tokens - firsts[count] >= MOST_STRANDS) {
                overfull = true;
                return false;
            }
            if (tokens > firsts[count]) {
                putByte(9);
            }
            tokenStarts[tokens] = size;
            return true;
        }

        private void closeToken() {
            if (!overfull) {
                tokenEnds[tokens] = size;
                acts[tokens] = Words.actOf(text, tokenStarts[tokens], size);
                tokens++;
            }
        }

        private void putBytes(byte[] from, int start, int end) {
            if (!Words.isRun(from, start, end)) {
                return;
            }
            for (int at = start; at < end && !overfull; at++) {
                putByte(from[at]);
            }
        }

        private void putByte(int b) {
            if (size >= TEXT_ROOM) {
                overfull = true;
            }
            if (!overfull) {
                text[size] = (byte) b;
                size++;
            }
        }

        int rowStart(int r) {
            return r < 0 || r >= count ? 0 : starts[r];
        }

        /** Where the 10 behind the ROW stands. */
        int rowEnd(int r) {
            return r < 0 || r >= count ? 0 : starts[r + 1] - 1;
        }

        int sortOf(int r) {
            return r < 0 || r >= count ? NONE : sorts[r];
        }

        int tokensOf(int r) {
            return r < 0 || r >= count ? 0 : firsts[r + 1] - firsts[r];
        }

        int tokenOf(int r, int i) {
            if (r < 0 || r >= count || i < 0 || i >= firsts[r + 1] - firsts[r]) {
                return NONE;
            }
            return firsts[r] + i;
        }

        int startOf(int token) {
            return token < 0 || token >= tokens ? 0 : tokenStarts[token];
        }

        int endOf(int token) {
            return token < 0 || token >= tokens ? 0 : tokenEnds[token];
        }

        int actOf(int token) {
            return token < 0 || token >= tokens ? NOTHING : acts[token];
        }

        int actAt(int r, int i) {
            if (r < 0 || r >= count || i < 0 || i >= firsts[r + 1] - firsts[r]) {
                return NOTHING;
            }
            return acts[firsts[r] + i];
        }

        int byteWithin(int start, int end, int k) {
            if (start < 0 || end > size || k < 0 || k >= end - start) {
                return NONE;
            }
            return text[start + k];
        }

        boolean isLone(int token, int b) {
            if (token < 0 || token >= tokens || tokenEnds[token] - tokenStarts[token] != 1) {
                return false;
            }
            return text[tokenStarts[token]] == b;
        }

        int countOf(int sort) {
            int found = 0;
            for (int r = 0; r < count; r++) {
                if (sortOf(r) == sort) {
                    found++;
                }
            }
            return found;
        }

        int mostTokens() {
            int most = 0;
            for (int r = 0; r < count; r++) {
                most = Math.max(most, tokensOf(r));
            }
            return most;
        }

        /** The first RECORD from a ROW on; behind the last one, how many ROWS there are. */
        int recordFrom(int r) {
            int at = Math.max(r, 0);
            while (at < count && sortOf(at) == REMARK) {
                at++;
            }
            return Math.min(at, count);
        }

        int countAct(int r, int act) {
            int found = 0;
            for (int i = 0; i < tokensOf(r); i++) {
                if (actAt(r, i) == act) {
                    found++;
                }
            }
            return found;
        }

        int firstAct(int r, int act) {
            for (int i = 0; i < tokensOf(r); i++) {
                if (actAt(r, i) == act) {
                    return i;
                }
            }
            return NONE;
        }

        /** Which STRAND of a RECORD a *x changes places with. */
        int otherOfSwap(int r, int i) {
            return actAt(r, i + 1) == SWAP ? i + 1 : i - 1;
        }

        /** The STRANDS behind a RECORD, each by the one it goes on from (a new one: NONE): how many. */
        int follow(int r, int[] from) {
            int n = 0;
            for (int i = 0; i < tokensOf(r); i++) {
                int act = actAt(r, i);
                boolean goes = act == FINISH || act == JOIN && actAt(r, i - 1) == JOIN;
                if (!goes) {
                    n = follower(from, n, act == SWAP ? otherOfSwap(r, i) : i);
                }
                if (act == SPLIT || act == ADD) {
                    n = follower(from, n, act == SPLIT ? i : NONE);
                }
            }
            return n;
        }

        private static int follower(int[] from, int n, int i) {
            if (n < 0 || n >= from.length) {
                return n;
            }
            from[n] = i;
            return n + 1;
        }

        boolean isWrittenLike(Rows other) {
            return Words.areAlike(text, 0, size, other.text, 0, other.size);
        }

        int copyTo(byte[] target) {
            int length = Math.min(size, target.length);
            for (int at = 0; at < length; at++) {
                target[at] = text[at];
            }
            return length;
        }
    }

    /** A table: its ROWS, what its STRANDS are at each TOKEN, and its TIMES. */
    private static final class Table {
        final Rows rows = new Rows();
        private final int[] tokenKinds = new int[MOST_TOKENS];
        private final int[] tokenNumbers = new int[MOST_TOKENS];
        private final int[] tokenHelds = new int[MOST_TOKENS];
        /** The LENGTHS of TOKENS of DATA, 0 above where there is none. */
        private final int[] lengthsAbove = new int[MOST_TOKENS];
        private final int[] lengthsBelow = new int[MOST_TOKENS];
        /** The TOKEN that tells a KIND first, and its RHYTHM. */
        private final int[] kindTokens = new int[MOST_KINDS];
        private final int[] kindRhythms = new int[MOST_KINDS];
        int kinds = 0;
        private int numbers = 0;
        /** The latest RECORD that is settled, and how many STRANDS there are behind it. */
        int latest = NONE;
        int strands = 0;
        /** For each of these the TOKEN, in that RECORD, of the one it goes on from; NONE: it is new. */
        private final int[] sources = new int[MOST_STRANDS];
        private final int[] timesAbove = new int[MOST_ROWS + 1];
        private final int[] timesBelow = new int[MOST_ROWS + 1];
        int misfitRow = NONE;
        int misfitCode = 0;

        void clear() {
            rows.clear();
            kinds = 0;
            numbers = 0;
            latest = NONE;
            strands = 0;
            misfitRow = NONE;
            misfitCode = 0;
        }

        void settleAll() {
            for (int r = 0; r < rows.count; r++) {
                if (rows.sortOf(r) != REMARK) {
                    settle(r);
                }
            }
        }

        /** Reckons the STRANDS at a RECORD from those behind the one before it. */
        void settle(int r) {
            for (int i = 0; i < rows.tokensOf(r); i++) {
                settleStrand(r, i);
            }
            latest = r;
            strands = rows.follow(r, sources);
            for (int i = 0; i < strands && i < MOST_STRANDS; i++) {
                sources[i] = rows.tokenOf(r, sources[i]);
            }
        }

        private void settleStrand(int r, int i) {
            int token = rows.tokenOf(r, i);
            if (token < 0 || token >= MOST_TOKENS) {
                return;
            }
            int old = i < 0 || i >= strands || i >= MOST_STRANDS ? NONE : sources[i];
            if (old == NONE) {
                tokenKinds[token] = enterKind(token);
                tokenNumbers[token] = numbers;
                tokenHelds[token] = NONE;
                numbers++;
            } else {
                tokenKinds[token] = kindOf(old);
                tokenNumbers[token] = numberOf(old);
                tokenHelds[token] = heldOf(old);
            }
            if (rows.sortOf(r) == DATA && !rows.isLone(token, '.')) {
                tokenHelds[token] = r;
            }
        }

        boolean isNew(int i) {
            return i < 0 || i >= strands || i >= MOST_STRANDS || sources[i] == NONE;
        }

        /** The KIND of a STRAND behind the latest RECORD; NONE: it is not told yet. */
        int comingKind(int i) {
            if (i < 0 || i >= strands || i >= MOST_STRANDS) {
                return NONE;
            }
            int token = sources[i];
            return token < 0 || token >= MOST_TOKENS ? NONE : tokenKinds[token];
        }

        private int enterKind(int token) {
            int start = rows.startOf(token) + 2;
            int end = rows.endOf(token);
            int known = kindNamed(rows.text, start, end);
            if (known != NONE || kinds >= MOST_KINDS) {
                return known;
            }
            kindTokens[kinds] = token;
            kindRhythms[kinds] = Words.rhythmOf(rows.text, start, end);
            kinds++;
            return kinds - 1;
        }

        int kindNamed(byte[] name, int start, int end) {
            for (int k = 0; k < kinds && k < MOST_KINDS; k++) {
                int token = kindTokens[k];
                if (Words.areAlike(rows.text, rows.startOf(token) + 2, rows.endOf(token), name, start, end)) {
                    return k;
                }
            }
            return NONE;
        }

        int nameByte(int k, int i) {
            if (k < 0 || k >= kinds || k >= MOST_KINDS) {
                return NONE;
            }
            int token = kindTokens[k];
            return rows.byteWithin(rows.startOf(token) + 2, rows.endOf(token), i);
        }

        int kindOf(int token) {
            return token < 0 || token >= MOST_TOKENS ? NONE : tokenKinds[token];
        }

        int numberOf(int token) {
            return token < 0 || token >= MOST_TOKENS ? NONE : tokenNumbers[token];
        }

        int heldOf(int token) {
            return token < 0 || token >= MOST_TOKENS ? NONE : tokenHelds[token];
        }

        int rhythmOf(int token) {
            int k = token < 0 || token >= MOST_TOKENS ? NONE : tokenKinds[token];
            return k < 0 || k >= MOST_KINDS ? NO_RHYTHM : kindRhythms[k];
        }

        void putLength(int token, int above, int below) {
            if (token >= 0 && token < MOST_TOKENS) {
                lengthsAbove[token] = above;
                lengthsBelow[token] = below;
            }
        }

        int lengthAbove(int token) {
            return token < 0 || token >= MOST_TOKENS ? 0 : lengthsAbove[token];
        }

        int lengthBelow(int token) {
            return token < 0 || token >= MOST_TOKENS ? 1 : lengthsBelow[token];
        }

        void putTime(int r, int above, int below) {
            if (r >= 0 && r <= MOST_ROWS) {
                timesAbove[r] = above;
                timesBelow[r] = below;
            }
        }

        int timeAbove(int r) {
            return r < 0 || r > MOST_ROWS ? 0 : timesAbove[r];
        }

        int timeBelow(int r) {
            return r < 0 || r > MOST_ROWS ? 1 : timesBelow[r];
        }
    }

    /** Makes a table from a text, or finds the first FAULT of it. */
    private static final class Reader {
        int code = 0;
        int place = 0;
        private byte[] text = null;
        private int size = 0;
        private Table into = null;
        /** Of the LINE that is read: where it ends, its SORT, and its TOKENS, one more than there may be. */
        private int lineEnd = 0;
        private int sort = DATA;
        private int tokens = 0;
        private final int[] starts = new int[MOST_STRANDS + 1];
        private final int[] ends = new int[MOST_STRANDS + 1];
        private final int[] acts = new int[MOST_STRANDS + 1];
        /** What was seen of its ACTS. */
        private int firstJoin = NONE;
        private int latestJoin = NONE;
        private int swaps = 0;
        private int adds = 0;
        private int grown = 0;

        boolean take(byte[] tape, int length, Table target) {
            code = 0;
            place = 0;
            text = tape;
            size = Words.isRun(tape, 0, length) ? length : 0;
            into = target;
            int start = 0;
            for (int n = 0; n <= MOST_ROWS && start < size && code == 0; n++) {
                lineEnd = findByte(10, start, size);
                if (n == MOST_ROWS) {
                    blame(7, start);
                } else if (Words.sortOfLine(text, start, lineEnd) == REMARK) {
                    takeRemark(start);
                } else {
                    takeRecord(n, start);
                }
                start = lineEnd + 1;
            }
            if (code == 0 && into.strands > 0) {
                blame(8, size);
            }
            return code == 0;
        }

        private void takeRemark(int start) {
            for (int at = start; at < lineEnd && code == 0; at++) {
                if (byteAt(at) != 9 && Words.isWrongByte(byteAt(at))) {
                    blame(1, at);
                }
            }
            if (code == 0) {
                into.rows.putRemark(text, start, lineEnd);
            }
        }

        private void takeRecord(int r, int start) {
            beginRecord(start);
            for (int i = 0; i < tokens && i <= MOST_STRANDS && code == 0; i++) {
                int found = faultOfToken(i, starts[i], ends[i]);
                if (found != 0) {
                    blame(found, starts[i]);
                } else {
                    takeToken(starts[i], ends[i]);
                }
            }
            if (code == 0 && !isFirst() && tokens < into.strands) {
                blame(4, lineEnd);
            }
            if (code == 0) {
                into.rows.closeRow();
                into.settle(r);
            }
        }

        private void beginRecord(int start) {
            sort = Words.sortOf(byteAt(start));
            firstJoin = NONE;
            latestJoin = NONE;
            swaps = 0;
            adds = 0;
            grown = 0;
            splitLine(start);
            into.rows.openRow();
        }

        /** The 13th TOKEN is a FAULT in every RECORD, so no more are looked for. */
        private void splitLine(int lineStart) {
            tokens = 0;
            int start = lineStart;
            while (tokens <= MOST_STRANDS && start <= lineEnd) {
                int end = findByte(9, start, lineEnd);
                starts[tokens] = start;
                ends[tokens] = end;
                acts[tokens] = Words.actOf(text, start, end);
                tokens++;
                start = end + 1;
            }
        }

        private void takeToken(int start, int end) {
            for (int at = start; at < end && code == 0; at++) {
                if (Words.isWrongByte(byteAt(at))) {
                    blame(1, at);
                }
            }
            if (code == 0) {
                into.rows.putToken(text, start, end);
            }
        }

        /** The least code at the TOKEN's first byte. */
        private int faultOfToken(int i, int start, int end) {
            if (start < end && Words.isWrongByte(byteAt(start))) {
                return 1;
            }
            if (start >= end || end - start > MOST_TOKEN_BYTES) {
                return 2;
            }
            if (isFirst()) {
                return faultOfFirst(i, start, end);
            }
            if (i >= into.strands) {
                return 4;
            }
            if (Words.sortOf(byteAt(start)) != sort) {
                return 5;
            }
            if (into.isNew(i)) {
                return Words.tellsKind(text, start, end) ? 0 : 6;
            }
            return faultOfAct(i);
        }

        private int faultOfFirst(int i, int start, int end) {
            if (!Words.tellsKind(text, start, end)) {
                return 3;
            }
            return i >= MOST_STRANDS ? 7 : 0;
        }

        private int faultOfAct(int i) {
            switch (actAt(i)) {
                case BEGIN:
                    return 6;
                case JOIN:
                    return faultOfJoin(i);
                case SWAP:
                    return faultOfSwap(i);
                case ADD:
                    adds++;
                    return adds > 1 ? 6 : faultOfGrowth();
                case SPLIT:
                    return faultOfGrowth();
                default:
                    return 0;
            }
        }

        private int faultOfJoin(int i) {
            int before = latestJoin;
            latestJoin = i;
            if (before == NONE) {
                firstJoin = i;
                return actAt(i + 1) == JOIN ? 0 : 6;
            }
            boolean ofGroup = before == i - 1;
            return ofGroup && into.comingKind(i) == into.comingKind(firstJoin) ? 0 : 6;
        }

        private int faultOfSwap(int i) {
            swaps++;
            if (swaps == 1) {
                return actAt(i + 1) == SWAP ? 0 : 6;
            }
            return swaps == 2 ? 0 : 6;
        }

        private int faultOfGrowth() {
            grown++;
            return into.strands + grown > MOST_STRANDS ? 7 : 0;
        }

        /** What a TOKEN does; one that has no STRAND does nothing. */
        private int actAt(int i) {
            return i < 0 || i >= tokens || i >= into.strands || i > MOST_STRANDS ? NOTHING : acts[i];
        }

        private boolean isFirst() {
            return into.latest == NONE;
        }

        private void blame(int which, int where) {
            code = which;
            place = where;
        }

        private int byteAt(int at) {
            return at < 0 || at >= size ? NONE : text[at];
        }

        private int findByte(int b, int start, int end) {
            int at = start;
            while (at < end && byteAt(at) != b) {
                at++;
            }
            return at;
        }
    }

    /** A number in lowest terms that is not below 0. */
    private static final class Fraction {
        long above = 0;
        long below = 1;

        void put(long top, long bottom) {
            long divisor = commonDivisor(top, bottom);
            if (divisor > 0) {
                above = top / divisor;
                below = bottom / divisor;
            }
        }

        void putSum(long top, long bottom, long moreTop, long moreBottom) {
            put(top * moreBottom + moreTop * bottom, bottom * moreBottom);
        }

        /** The lower parts are cut first: parts below 10^9 stay within a long then, also the upper one. */
        void putDifference(long top, long bottom, long lessTop, long lessBottom) {
            long divisor = commonDivisor(bottom, lessBottom);
            if (divisor > 0) {
                long own = bottom / divisor;
                put(top * (lessBottom / divisor) - lessTop * own, own * lessBottom);
            }
        }

        boolean is(long top, long bottom) {
            return above == top && below == bottom;
        }

        static int compare(long top, long bottom, long otherTop, long otherBottom) {
            return Long.compare(top * otherBottom, otherTop * bottom);
        }

        /** Two hundred steps are far more than numbers of 63 bits need. */
        private static long commonDivisor(long a, long b) {
            long big = a;
            long small = b;
            for (int n = 0; n < 200 && small != 0; n++) {
                long rest = big % small;
                big = small;
                small = rest;
            }
            return big;
        }
    }

    /** The LENGTHS of TOKENS, and METERS. */
    private static final class Lengths {
        /** What the latest TOKEN told that had a LENGTH or a METER. */
        int above = 0;
        int below = 1;
        private final Fraction value = new Fraction();
        private byte[] text = null;
        private int at = 0;
        private int end = 0;

        /** Puts the LENGTHS of all TOKENS of DATA into a table. */
        void fill(Table table) {
            Rows rows = table.rows;
            for (int r = 0; r < rows.count; r++) {
                int tokens = rows.sortOf(r) == DATA ? rows.tokensOf(r) : 0;
                for (int i = 0; i < tokens; i++) {
                    int token = rows.tokenOf(r, i);
                    boolean has = measure(table, token);
                    table.putLength(token, has ? above : 0, has ? below : 1);
                }
            }
        }

        private boolean measure(Table table, int token) {
            begin(table.rows, token);
            switch (table.rhythmOf(token)) {
                case RECIP:
                    return measureRecip();
                case KERN:
                    return measureKern();
                default:
                    return false;
            }
        }

        /** Whether a TOKEN is a METER, which is in above and below then. */
        boolean isMeter(Rows from, int token) {
            begin(from, token);
            if (!takes('*') || !takes('M')) {
                return false;
            }
            int n = takeNumber(2);
            if (n == 0 || !takes('/')) {
                return false;
            }
            int d = takeNumber(2);
            if (d == 0 || at != end) {
                return false;
            }
            value.put(n, d);
            keepValue();
            return true;
        }

        private void begin(Rows from, int token) {
            text = from.text;
            at = from.startOf(token);
            end = from.endOf(token);
        }

        private boolean measureRecip() {
            if (!takeReciprocal()) {
                return false;
            }
            takes('r');
            keepValue();
            return at == end;
        }

        private boolean measureKern() {
            for (int sounds = 0; sounds < MOST_TOKEN_BYTES; sounds++) {
                if (!takeSound() || sounds > 0 && !value.is(above, below)) {
                    return false;
                }
                keepValue();
                if (at == end) {
                    return true;
                }
                if (!takes(' ')) {
                    return false;
                }
            }
            return false;
        }

        private boolean takeSound() {
            while (at < end && (here() == '(' || here() == '[' || here() == '{')) {
                at++;
            }
            if (!takeReciprocal() || !takes('r') && !takePitch()) {
                return false;
            }
            while (at < end && isClosing(here())) {
                at++;
            }
            return true;
        }

        private static boolean isClosing(int b) {
            return b == ')' || b == ']' || b == '}' || b == '_' || b == ';';
        }

        private boolean takePitch() {
            int letter = here();
            boolean isPitch = letter >= 'a' && letter <= 'g' || letter >= 'A' && letter <= 'G';
            if (!isPitch) {
                return false;
            }
            takeSome(letter, 4);
            if (takeSome('#', 2) == 0 && takeSome('-', 2) == 0) {
                takes('n');
            }
            return true;
        }

        private boolean takeReciprocal() {
            long top = 1;
            long bottom = 1;
            int zeros = takeSome('0', 3);
            if (zeros > 0) {
                top = 1L << zeros;
            } else {
                bottom = takeNumber(3);
                top = takes('%') ? takeNumber(3) : 1;
            }
            if (top == 0 || bottom == 0) {
                return false;
            }
            int points = takeSome('.', 3);
            value.put(top * ((2L << points) - 1), bottom << points);
            return true;
        }

        /** A number whose first digit is not 0; 0: there is none. More digits stay, for nothing takes them. */
        private int takeNumber(int mostDigits) {
            if (here() == '0') {
                return 0;
            }
            int number = 0;
            for (int n = 0; n < mostDigits && here() >= '0' && here() <= '9'; n++) {
                number = number * 10 + here() - '0';
                at++;
            }
            return number;
        }

        private int takeSome(int b, int most) {
            int n = 0;
            while (n < most && here() == b) {
                at++;
                n++;
            }
            return n;
        }

        private boolean takes(int b) {
            if (here() != b) {
                return false;
            }
            at++;
            return true;
        }

        private int here() {
            return text == null || at < 0 || at >= end || at >= text.length ? NONE : text[at];
        }

        private void keepValue() {
            above = (int) value.above;
            below = (int) value.below;
        }
    }

    /** THE WALK: the TIMES of a table's ROWS, or its MISFIT. */
    private static final class Walker {
        private final int[] endAbove = new int[MOST_STRANDS];
        private final int[] endBelow = new int[MOST_STRANDS];
        private final int[] oldAbove = new int[MOST_STRANDS];
        private final int[] oldBelow = new int[MOST_STRANDS];
        private final int[] from = new int[MOST_STRANDS];
        private final Fraction sum = new Fraction();
        private Table table = null;
        private int nowAbove = 0;
        private int nowBelow = 1;

        void go(Table target) {
            begin(target);
            int rows = target.rows.count;
            for (int r = 0; r < rows && target.misfitCode == 0; r++) {
                target.putTime(r, nowAbove, nowBelow);
                target.misfitCode = step(r);
                target.misfitRow = target.misfitCode == 0 ? NONE : r;
            }
            target.putTime(rows, nowAbove, nowBelow);
        }

        private void begin(Table target) {
            table = target;
            target.misfitRow = NONE;
            target.misfitCode = 0;
            nowAbove = 0;
            nowBelow = 1;
            for (int i = 0; i < MOST_STRANDS; i++) {
                endAbove[i] = 0;
                endBelow[i] = 1;
            }
        }

        private int step(int r) {
            switch (table.rows.sortOf(r)) {
                case DATA:
                    return stepData(r);
                case ACTS:
                    return stepActs(r);
                default:
                    return 0;
            }
        }

        private int stepData(int r) {
            int misfit = checkData(r);
            if (misfit == 0) {
                misfit = lengthen(r);
            }
            if (misfit == 0) {
                moveOn(r);
            }
            return misfit;
        }

        private int checkData(int r) {
            boolean any = false;
            for (int i = 0; i < strandsAt(r); i++) {
                int token = table.rows.tokenOf(r, i);
                if (table.rhythmOf(token) != NO_RHYTHM) {
                    any = true;
                    int misfit = checkToken(token, isAt(i, nowAbove, nowBelow));
                    if (misfit != 0) {
                        return misfit;
                    }
                }
            }
            return any ? 0 : 4;
        }

        private int checkToken(int token, boolean isDue) {
            if (table.rows.isLone(token, '.')) {
                return isDue ? 3 : 0;
            }
            if (table.lengthAbove(token) == 0) {
                return 1;
            }
            return isDue ? 0 : 2;
        }

        private int lengthen(int r) {
            for (int i = 0; i < strandsAt(r); i++) {
                int token = table.rows.tokenOf(r, i);
                if (table.lengthAbove(token) != 0) {
                    sum.putSum(nowAbove, nowBelow, table.lengthAbove(token), table.lengthBelow(token));
                    if (sum.above >= TIME_LIMIT || sum.below >= TIME_LIMIT) {
                        return 5;
                    }
                    endAbove[i] = (int) sum.above;
                    endBelow[i] = (int) sum.below;
                }
            }
            return 0;
        }

        private int stepActs(int r) {
            int misfit = checkActs(r);
            if (misfit == 0) {
                carry(r);
                moveOn(table.rows.recordFrom(r + 1));
            }
            return misfit;
        }

        private int checkActs(int r) {
            int group = NONE;
            for (int i = 0; i < strandsAt(r); i++) {
                int act = table.rows.actAt(r, i);
                if (act == JOIN && group == NONE) {
                    group = i;
                }
                if (table.rhythmOf(table.rows.tokenOf(r, i)) == NO_RHYTHM) {
                    continue;
                }
                if (act == JOIN && group >= 0 && !isAt(i, endAbove[group], endBelow[group])) {
                    return 6;
                }
                if (act == FINISH && !isAt(i, nowAbove, nowBelow)) {
                    return 7;
                }
            }
            return 0;
        }

        private void carry(int r) {
            for (int i = 0; i < MOST_STRANDS; i++) {
                oldAbove[i] = endAbove[i];
                oldBelow[i] = endBelow[i];
            }
            int count = table.rows.follow(r, from);
            for (int i = 0; i < count && i < MOST_STRANDS; i++) {
                int old = from[i];
                boolean isNew = old < 0 || old >= MOST_STRANDS;
                endAbove[i] = isNew ? nowAbove : oldAbove[old];
                endBelow[i] = isNew ? nowBelow : oldBelow[old];
            }
        }

        /** NOW becomes the least END of the STRANDS that this RECORD has; it stays where there is none. */
        private void moveOn(int record) {
            int least = NONE;
            for (int i = 0; i < strandsAt(record); i++) {
                boolean counts = table.rhythmOf(table.rows.tokenOf(record, i)) != NO_RHYTHM;
                if (counts && (least == NONE || endsAhead(i, least))) {
                    least = i;
                }
            }
            if (least != NONE) {
                nowAbove = endAbove[least];
                nowBelow = endBelow[least];
            }
        }

        private int strandsAt(int r) {
            return Math.min(table.rows.tokensOf(r), MOST_STRANDS);
        }

        private boolean isAt(int i, int above, int below) {
            return endAbove[i] == above && endBelow[i] == below;
        }

        private boolean endsAhead(int i, int other) {
            return Fraction.compare(endAbove[i], endBelow[i], endAbove[other], endBelow[other]) < 0;
        }
    }

    /** Finds BARS that stand at a wrong TIME. */
    private static final class BarCheck {
        private final Fraction gap = new Fraction();
        /** THE METER at the ROW that is looked at, 0 above for none; and as it was at the latest BARS. */
        private int meterAbove = 0;
        private int meterBelow = 1;
        private int dueAbove = 0;
        private int dueBelow = 1;

        int firstWrong(Table table, Lengths lengths) {
            meterAbove = 0;
            meterBelow = 1;
            int before = NONE;
            for (int r = 0; r < table.rows.count; r++) {
                if (table.rows.sortOf(r) == ACTS) {
                    takeMeter(table.rows, r, lengths);
                }
                if (table.rows.sortOf(r) == BARS) {
                    if (before != NONE && isWrong(table, before, r)) {
                        return r;
                    }
                    before = r;
                    dueAbove = meterAbove;
                    dueBelow = meterBelow;
                }
            }
            return NONE;
        }

        private void takeMeter(Rows rows, int r, Lengths lengths) {
            for (int i = 0; i < rows.tokensOf(r); i++) {
                if (lengths.isMeter(rows, rows.tokenOf(r, i))) {
                    meterAbove = lengths.above;
                    meterBelow = lengths.below;
                }
            }
        }

        private boolean isWrong(Table table, int before, int r) {
            gap.putDifference(table.timeAbove(r), table.timeBelow(r), table.timeAbove(before), table.timeBelow(before));
            return dueAbove != 0 && !gap.is(dueAbove, dueBelow);
        }
    }

    /** EXTRACT: the STRANDS of one KIND. */
    private static final class Extractor {
        private final int[] from = new int[MOST_STRANDS];

        boolean isInFirst(Table table, int kind) {
            int first = table.rows.recordFrom(0);
            for (int i = 0; i < table.rows.tokensOf(first); i++) {
                if (isOf(table, first, i, kind)) {
                    return true;
                }
            }
            return false;
        }

        boolean beganElsewhere(Table table, int kind) {
            for (int r = 0; r < table.rows.count; r++) {
                int add = table.rows.firstAct(r, ADD);
                if (add != NONE && addedKind(table, r) == kind && !isOf(table, r, add, kind)) {
                    return true;
                }
            }
            return false;
        }

        void copy(Table table, int kind, Rows into) {
            for (int r = 0; r < table.rows.count; r++) {
                int added = table.rows.firstAct(r, ADD) == NONE ? NONE : addedKind(table, r);
                if (isKept(table, r, kind, added)) {
                    copyRecord(table, r, kind, added, into);
                }
            }
        }

        private boolean isKept(Table table, int r, int kind, int added) {
            for (int i = 0; i < table.rows.tokensOf(r); i++) {
                if (isOf(table, r, i, kind) && !isEmpty(table, r, i, kind, added)) {
                    return true;
                }
            }
            return false;
        }

        private void copyRecord(Table table, int r, int kind, int added, Rows into) {
            into.openRow();
            for (int i = 0; i < table.rows.tokensOf(r); i++) {
                if (!isOf(table, r, i, kind)) {
                    continue;
                }
                int token = table.rows.tokenOf(r, i);
                if (losesAct(table, r, i, kind, added)) {
                    into.putLone('*');
                } else {
                    into.putToken(table.rows.text, table.rows.startOf(token), table.rows.endOf(token));
                }
            }
            into.closeRow();
        }

        private static boolean isEmpty(Table table, int r, int i, int kind, int added) {
            int token = table.rows.tokenOf(r, i);
            Rows rows = table.rows;
            return rows.isLone(token, '.') || rows.isLone(token, '*') || rows.isLone(token, '!')
                    || losesAct(table, r, i, kind, added);
        }

        private static boolean losesAct(Table table, int r, int i, int kind, int added) {
            switch (table.rows.actAt(r, i)) {
                case SWAP:
                    return !isOf(table, r, table.rows.otherOfSwap(r, i), kind);
                case ADD:
                    return added != kind;
                default:
                    return false;
            }
        }

        /** The KIND of the STRAND that begins behind a RECORD with *+. */
        private int addedKind(Table table, int r) {
            int next = table.rows.recordFrom(r + 1);
            int count = table.rows.follow(r, from);
            for (int i = 0; i < count && i < MOST_STRANDS; i++) {
                if (from[i] == NONE) {
                    return table.kindOf(table.rows.tokenOf(next, i));
                }
            }
            return NONE;
        }

        private static boolean isOf(Table table, int r, int i, int kind) {
            return table.kindOf(table.rows.tokenOf(r, i)) == kind;
        }
    }

    /** How far ASSEMBLE has come in one of its two tables. */
    private static final class Side {
        Table table = null;
        int next = 0;
        /** The STRANDS that there are behind what is put. */
        int strands = 0;
        /** Behind a *+ the ROWS up to the next RECORD are put at once. */
        boolean isUrgent = false;
        private final int[] from = new int[MOST_STRANDS];

        void begin(Table source) {
            table = source;
            next = 0;
            strands = 0;
            isUrgent = false;
        }

        boolean hasNext() {
            return table != null && next < table.rows.count;
        }

        int sort() {
            return hasNext() ? table.rows.sortOf(next) : NONE;
        }

        boolean isAtBarsOrData() {
            return sort() == BARS || sort() == DATA;
        }

        void pass() {
            if (hasNext() && sort() != REMARK) {
                strands = table.rows.follow(next, from);
                isUrgent = table.rows.firstAct(next, ADD) != NONE;
            }
            next++;
        }
    }

    /** ASSEMBLE: two tables side by side in TIME. */
    private static final class Assembler {
        private final Side left = new Side();
        private final Side right = new Side();
        private Rows into = null;

        /** False: BARS do not meet. Whether there was room is told by the ROWS themselves. */
        boolean join(Table a, Table b, Rows target) {
            left.begin(a);
            right.begin(b);
            into = target;
            putRemarksAhead(left);
            putRemarksAhead(right);
            if (left.hasNext() && right.hasNext()) {
                putBoth();
            }
            boolean meets = true;
            for (int n = 0; n < 2 * MOST_ROWS && meets && (left.hasNext() || right.hasNext()); n++) {
                meets = putNext();
            }
            return meets;
        }

        private void putRemarksAhead(Side side) {
            for (int n = 0; n < MOST_ROWS && side.sort() == REMARK; n++) {
                putAlone(side, side == left ? right : left);
            }
        }

        private boolean putNext() {
            int order = order();
            if (order < 0) {
                return putAlone(left, right);
            }
            if (order > 0) {
                return putAlone(right, left);
            }
            if (!left.isAtBarsOrData()) {
                return putAlone(left, right);
            }
            if (!right.isAtBarsOrData()) {
                return putAlone(right, left);
            }
            return doMeet() && putBoth();
        }

        /** Below 0: the next ROW is that of the left one; above 0: of the right one; 0: of one TIME. */
        private int order() {
            if (left.isUrgent || !right.hasNext()) {
                return -1;
            }
            if (right.isUrgent || !left.hasNext()) {
                return 1;
            }
            Table a = left.table;
            Table b = right.table;
            return Fraction.compare(a.timeAbove(left.next), a.timeBelow(left.next),
                    b.timeAbove(right.next), b.timeBelow(right.next));
        }

        private boolean doMeet() {
            if (left.sort() != right.sort()) {
                return false;
            }
            return left.sort() != BARS || firstTokensAreAlike(left.table.rows, right.table.rows);
        }

        private boolean firstTokensAreAlike(Rows a, Rows b) {
            int x = a.tokenOf(left.next, 0);
            int y = b.tokenOf(right.next, 0);
            return Words.areAlike(a.text, a.startOf(x), a.endOf(x), b.text, b.startOf(y), b.endOf(y));
        }

        private boolean putBoth() {
            into.openRow();
            into.putTokensOf(left.table.rows, left.next);
            into.putTokensOf(right.table.rows, right.next);
            into.closeRow();
            left.pass();
            right.pass();
            return true;
        }

        private boolean putAlone(Side own, Side other) {
            Rows from = own.table.rows;
            int sort = own.sort();
            if (sort == REMARK) {
                into.putRemark(from.text, from.rowStart(own.next), from.rowEnd(own.next));
                own.pass();
                return true;
            }
            if (sort == BARS && other.strands > 0) {
                return false;
            }
            needRoom(own, other);
            into.openRow();
            into.putLones(emptyToken(sort), own == right ? other.strands : 0);
            into.putTokensOf(from, own.next);
            into.putLones(emptyToken(sort), own == left ? other.strands : 0);
            into.closeRow();
            own.pass();
            return true;
        }

        private void needRoom(Side own, Side other) {
            Rows from = own.table.rows;
            int grown = from.countAct(own.next, SPLIT) + from.countAct(own.next, ADD);
            if (grown > 0 && from.tokensOf(own.next) + other.strands + grown > MOST_STRANDS) {
                into.overfull = true;
            }
        }

        private static int emptyToken(int sort) {
            switch (sort) {
                case ACTS:
                    return '*';
                case NOTES:
                    return '!';
                default:
                    return '.';
            }
        }
    }
}
