/** What the tests share: putting texts on a tape, and comparing answers. */
final class Trial {
    interface Call {
        long answer();
    }

    private int wrong = 0;
    private int asked = 0;
    SpineTables x = new SpineTables();

    void begin() {
        x = new SpineTables();
    }

    /** Rows with | in place of the byte 9, each ended by a byte 10. */
    static String rows(String... rows) {
        StringBuilder text = new StringBuilder();
        for (String row : rows) {
            text.append(row.replace('|', '\t')).append('\n');
        }
        return text.toString();
    }

    static String repeat(String part, int times) {
        return part.repeat(times);
    }

    /** A row of one token for each of so many strands. */
    static String all(int times, String token) {
        return token + repeat("|" + token, times - 1);
    }

    /** A row of the token * for each of so many strands, but for those given, from the place on. */
    static String but(int times, int place, String... tokens) {
        StringBuilder row = new StringBuilder();
        for (int i = 0; i < times; i++) {
            boolean given = i >= place && i < place + tokens.length;
            row.append(i == 0 ? "" : "|").append(given ? tokens[i - place] : "*");
        }
        return row.toString();
    }

    void tape(String text) {
        int length = text.length();
        StringBuilder padded = new StringBuilder(text);
        while (padded.length() % 20 != 0) {
            padded.append('#');
        }
        for (int at = 0; at < padded.length(); at += 20) {
            x.feed(number(padded, at), number(padded, at + 4), number(padded, at + 8),
                    number(padded, at + 12), number(padded, at + 16));
        }
        x.cut(length);
    }

    static int number(CharSequence text, int at) {
        return text.charAt(at) << 24 | text.charAt(at + 1) << 16 | text.charAt(at + 2) << 8 | text.charAt(at + 3);
    }

    int read(String text) {
        tape(text);
        return x.read();
    }

    int read(String[] rows) {
        return read(rows(rows));
    }

    int extract(int t, String kind) {
        tape(kind);
        return x.extract(t);
    }

    String written(int t) {
        int size = x.write(t);
        StringBuilder text = new StringBuilder();
        for (int i = 0; i < size; i++) {
            text.append((char) x.out(i));
        }
        return text.toString();
    }

    void due(String what, long got, long want) {
        asked++;
        if (got != want) {
            wrong++;
            System.out.println(what + " answered " + got + ", due is " + want);
        }
    }

    void due(String what, boolean got, boolean want) {
        due(what, got ? 1 : 0, want ? 1 : 0);
    }

    void dueText(String what, String got, String want) {
        asked++;
        if (!got.equals(want)) {
            wrong++;
            System.out.println(what + " answered\n" + got + "due is\n" + want);
        }
    }

    /** The very class is due, so that what the machine throws by itself is told from it. */
    void dueThrow(String what, Class<? extends RuntimeException> want, Call call) {
        asked++;
        String got;
        try {
            got = "the answer " + call.answer();
        } catch (RuntimeException e) {
            if (e.getClass() == want) {
                return;
            }
            got = e.getClass().getName();
        }
        wrong++;
        System.out.println(what + " gave " + got + ", due is " + want.getName());
    }

    void noIndex(String what, Call call) {
        dueThrow(what, IndexOutOfBoundsException.class, call);
    }

    void noArgument(String what, Call call) {
        dueThrow(what, IllegalArgumentException.class, call);
    }

    void noState(String what, Call call) {
        dueThrow(what, IllegalStateException.class, call);
    }

    void dueFault(String text, int code, int place) {
        due("read of [" + text + "]", read(text), -10 - place);
        due("fault of [" + text + "]", x.fault(), code);
    }

    void dueRight(String text) {
        int t = read(text);
        due("read of [" + text + "] is right", t >= 0, true);
        due("fault of [" + text + "]", x.fault(), 0);
        if (t >= 0) {
            x.drop(t);
        }
    }

    /** On a new object: the rows are a table, which has number 0 then. */
    void right(String... rows) {
        begin();
        due("read of " + String.join(" / ", rows), read(rows), 0);
        due("fault of " + String.join(" / ", rows), x.fault(), 0);
    }

    /** On a new object: the place of the FAULT is marked by @; a last row of @ alone is the end of the text. */
    void fault(int code, String... rows) {
        String text = rows(rows);
        if (rows[rows.length - 1].equals("@")) {
            text = text.substring(0, text.length() - 1);
        }
        faultIn(code, text);
    }

    void faultIn(int code, String text) {
        begin();
        int place = text.indexOf('@');
        dueFault(text.substring(0, place) + text.substring(place + 1), code, place);
    }

    void end(String name) {
        System.out.println(name + ": " + asked + " answers, " + wrong + " wrong");
        if (wrong != 0) {
            System.exit(1);
        }
    }
}
