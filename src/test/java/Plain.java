import java.util.ArrayList;
import java.util.Arrays;
import java.util.List;
import java.util.regex.Matcher;
import java.util.regex.Pattern;

/**
 * A second program, written from the document alone and as plainly as can be: a table is its text, which is read
 * anew whenever something is asked. ModelTest compares it with the class.
 */
final class Plain {
    static final int NONE = -1, OTHER = -4, ROOM = -5, UNKNOWN = -3;
    private static final String RECIPROCAL = "(0{1,3}|([1-9][0-9]{0,2})(%([1-9][0-9]{0,2}))?)([.]{0,3})";
    private static final Pattern RECIP = Pattern.compile(RECIPROCAL + "r?");
    private static final Pattern SOUND = Pattern.compile(
            "[(\\[{]*" + RECIPROCAL + "(r|([a-gA-G])\\7{0,3}(#|##|-|--|n)?)[)\\]}_;]*");
    private static final Pattern METER = Pattern.compile("\\*M([1-9][0-9]?)/([1-9][0-9]?)");

    /** A STRAND at a RECORD. */
    static final class Strand {
        String kind = "";
        int number = 0;
        int held = NONE;
        long[] end = {0, 1};
        boolean isNew = false;

        Strand copy() {
            Strand other = new Strand();
            other.kind = kind;
            other.number = number;
            other.held = held;
            other.end = end;
            other.isNew = isNew;
            return other;
        }

        boolean hasRhythm() {
            return kind.equals("kern") || kind.equals("recip");
        }
    }

    static final class Row {
        String line = "";
        int sort = 0;
        List<String> tokens = new ArrayList<>();
        /** As they are at this RECORD. */
        List<Strand> strands = new ArrayList<>();
        long[] time = {0, 1};
    }

    final List<Row> rows = new ArrayList<>();
    final List<String> kinds = new ArrayList<>();
    int code = 0;
    int place = 0;
    int misfit = 0;
    int misfitRow = NONE;
    long[] now = {0, 1};
    private List<Strand> strands = null;
    private int numbers = 0;

    Plain(String text) {
        int start = 0;
        while (start < text.length() && code == 0) {
            int end = text.indexOf('\n', start) < 0 ? text.length() : text.indexOf('\n', start);
            takeLine(text.substring(start, end), start);
            start = end + 1;
        }
        if (code == 0 && strands != null && !strands.isEmpty()) {
            blame(8, text.length());
        }
        if (code == 0) {
            walk();
        }
    }

    static boolean isKind(String token) {
        return token.matches("\\*\\*[a-z]{1,8}");
    }

    private static int sortOf(String token) {
        return token.isEmpty() ? 4 : token.charAt(0) == '!' ? 1 : token.charAt(0) == '*' ? 2 : token.charAt(0) == '=' ? 3 : 4;
    }

    private static boolean isLone(String token) {
        return token.equals(".");
    }

    /** Of all that is wrong the first by its place, of one place the least code. */
    private void blame(int which, int where) {
        if (code == 0 || where < place || where == place && which < code) {
            code = which;
            place = where;
        }
    }

    private void takeLine(String line, int start) {
        if (rows.size() == 200) {
            blame(7, start);
            return;
        }
        for (int at = 0; at < line.length(); at++) {
            char b = line.charAt(at);
            if (b != 9 && (b < 32 || b > 126)) {
                blame(1, start + at);
            }
        }
        Row row = new Row();
        row.line = line;
        if (!line.startsWith("!!")) {
            for (String token : line.split("\t", -1)) {
                row.tokens.add(token);
            }
            row.sort = sortOf(row.tokens.get(0));
            blameTokens(row, start);
        }
        rows.add(row);
        if (code == 0 && row.sort != 0) {
            settle(row);
        }
    }

    private void blameTokens(Row row, int start) {
        List<Integer> places = new ArrayList<>();
        int at = start;
        for (String token : row.tokens) {
            places.add(at);
            if (token.isEmpty() || token.length() > 40) {
                blame(2, at);
            }
            at += token.length() + 1;
        }
        if (strands == null) {
            for (int i = 0; i < row.tokens.size(); i++) {
                if (!isKind(row.tokens.get(i))) {
                    blame(3, places.get(i));
                }
                if (i == 12) {
                    blame(7, places.get(i));
                }
            }
            return;
        }
        if (row.tokens.size() > strands.size()) {
            blame(4, places.get(strands.size()));
        } else if (row.tokens.size() < strands.size()) {
            blame(4, start + row.line.length());
        }
        blameActs(row, places);
    }

    private void blameActs(Row row, List<Integer> places) {
        int count = Math.min(strands.size(), row.tokens.size());
        int join = NONE;
        int joinEnd = NONE;
        int swaps = 0;
        int adds = 0;
        int grown = 0;
        for (int i = 0; i < row.tokens.size(); i++) {
            String token = row.tokens.get(i);
            if (!token.isEmpty() && sortOf(token) != row.sort) {
                blame(5, places.get(i));
            }
            if (i >= count) {
                continue;
            }
            String next = i + 1 < count ? row.tokens.get(i + 1) : "";
            boolean wrong = strands.get(i).isNew ? !isKind(token) : token.startsWith("**");
            if (token.equals("*v")) {
                if (join == NONE) {
                    join = i;
                    joinEnd = i;
                    wrong |= !next.equals("*v");
                } else {
                    wrong |= joinEnd != i - 1 || !strands.get(i).kind.equals(strands.get(join).kind);
                    joinEnd = joinEnd == i - 1 ? i : joinEnd;
                }
            }
            if (token.equals("*x")) {
                swaps++;
                wrong |= swaps == 1 && !next.equals("*x") || swaps == 3;
            }
            if (token.equals("*+")) {
                adds++;
                wrong |= adds == 2;
            }
            if (wrong) {
                blame(6, places.get(i));
            }
            if (token.equals("*^") || token.equals("*+")) {
                grown++;
                if (strands.size() + grown > 12) {
                    blame(7, places.get(i));
                }
            }
        }
    }

    /** What the STRANDS are at a right RECORD, and behind it. */
    private void settle(Row row) {
        if (strands == null) {
            strands = new ArrayList<>();
            for (int i = 0; i < row.tokens.size(); i++) {
                strands.add(begun());
            }
        }
        for (int i = 0; i < row.tokens.size(); i++) {
            Strand strand = strands.get(i).copy();
            String token = row.tokens.get(i);
            if (strand.isNew) {
                strand.isNew = false;
                strand.kind = token.substring(2);
                strand.number = numbers++;
                if (!kinds.contains(strand.kind)) {
                    kinds.add(strand.kind);
                }
            }
            if (row.sort == 4 && !isLone(token)) {
                strand.held = rows.size() - 1;
            }
            row.strands.add(strand);
        }
        strands = behind(row);
    }

    private static Strand begun() {
        Strand strand = new Strand();
        strand.isNew = true;
        return strand;
    }

    private static List<Strand> behind(Row row) {
        List<Strand> next = new ArrayList<>();
        for (int i = 0; i < row.tokens.size(); i++) {
            String token = row.tokens.get(i);
            String before = i == 0 ? "" : row.tokens.get(i - 1);
            if (token.equals("*x")) {
                next.add(row.strands.get(before.equals("*x") ? i - 1 : i + 1).copy());
            } else if (!token.equals("*-") && !(token.equals("*v") && before.equals("*v"))) {
                next.add(row.strands.get(i).copy());
            }
            if (token.equals("*^")) {
                next.add(row.strands.get(i).copy());
            }
            if (token.equals("*+")) {
                next.add(begun());
            }
        }
        return next;
    }

    private static long divisor(long a, long b) {
        return b == 0 ? a : divisor(b, a % b);
    }

    static long[] fraction(long above, long below) {
        long d = divisor(above, below);
        return new long[] {above / d, below / d};
    }

    static int compare(long[] x, long[] y) {
        return Long.compare(x[0] * y[1], y[0] * x[1]);
    }

    /** null: it has none. */
    static long[] length(String kind, String token) {
        if (kind.equals("recip")) {
            Matcher m = RECIP.matcher(token);
            return m.matches() ? reciprocal(m) : null;
        }
        long[] found = null;
        for (String sound : token.split(" ", -1)) {
            Matcher m = SOUND.matcher(sound);
            if (!kind.equals("kern") || !m.matches() || found != null && compare(found, reciprocal(m)) != 0) {
                return null;
            }
            found = reciprocal(m);
        }
        return found;
    }

    private static long[] reciprocal(Matcher m) {
        long above = m.group(2) == null ? 1 << m.group(1).length() : m.group(4) == null ? 1 : Long.parseLong(m.group(4));
        long below = m.group(2) == null ? 1 : Long.parseLong(m.group(2));
        int points = m.group(5).length();
        return fraction(above * new long[] {1, 3, 7, 15}[points], below * new long[] {1, 2, 4, 8}[points]);
    }

    private void walk() {
        List<long[]> ends = new ArrayList<>();
        for (int r = 0; r < rows.size() && misfit == 0; r++) {
            Row row = rows.get(r);
            row.time = now;
            while (ends.size() < row.tokens.size()) {
                ends.add(new long[] {0, 1});
            }
            for (int i = 0; i < row.strands.size(); i++) {
                row.strands.get(i).end = ends.get(i);
            }
            misfit = row.sort == 4 ? walkData(row) : row.sort == 2 ? misfitOfActs(row) : 0;
            misfitRow = misfit == 0 ? NONE : r;
            if (misfit == 0 && row.sort != 0) {
                ends = moveOn(row, r);
            }
        }
    }

    private int walkData(Row row) {
        boolean any = false;
        for (int i = 0; i < row.tokens.size(); i++) {
            Strand strand = row.strands.get(i);
            if (!strand.hasRhythm()) {
                continue;
            }
            any = true;
            boolean isDue = compare(strand.end, now) == 0;
            boolean isLone = isLone(row.tokens.get(i));
            if (isLone && isDue) {
                return 3;
            }
            if (!isLone && length(strand.kind, row.tokens.get(i)) == null) {
                return 1;
            }
            if (!isLone && !isDue) {
                return 2;
            }
        }
        return any ? lengthen(row) : 4;
    }

    private int lengthen(Row row) {
        for (int i = 0; i < row.tokens.size(); i++) {
            Strand strand = row.strands.get(i);
            if (strand.hasRhythm() && !isLone(row.tokens.get(i))) {
                long[] more = length(strand.kind, row.tokens.get(i));
                strand.end = fraction(now[0] * more[1] + more[0] * now[1], now[1] * more[1]);
                if (strand.end[0] >= 1000000000 || strand.end[1] >= 1000000000) {
                    return 5;
                }
            }
        }
        return 0;
    }

    private int misfitOfActs(Row row) {
        int first = row.tokens.indexOf("*v");
        for (int i = 0; i < row.tokens.size(); i++) {
            Strand strand = row.strands.get(i);
            if (strand.hasRhythm() && row.tokens.get(i).equals("*v") && compare(strand.end, row.strands.get(first).end) != 0) {
                return 6;
            }
            if (strand.hasRhythm() && row.tokens.get(i).equals("*-") && compare(strand.end, now) != 0) {
                return 7;
            }
        }
        return 0;
    }

    /** The ENDS behind a RECORD; behind DATA and ACTS NOW is the least of those that have RHYTHM. */
    private List<long[]> moveOn(Row row, int r) {
        List<long[]> ends = new ArrayList<>();
        List<Strand> next = behind(row);
        for (Strand strand : next) {
            ends.add(strand.isNew ? now : strand.end);
        }
        int record = r + 1;
        while (record < rows.size() && rows.get(record).sort == 0) {
            record++;
        }
        long[] least = null;
        for (int i = 0; i < next.size() && (row.sort == 4 || row.sort == 2); i++) {
            boolean counts = rows.get(record).strands.get(i).hasRhythm();
            least = counts && (least == null || compare(ends.get(i), least) < 0) ? ends.get(i) : least;
        }
        now = least == null ? now : least;
        return ends;
    }

    int bars() {
        long[] meter = null;
        long[] due = null;
        Row before = null;
        for (int r = 0; r < rows.size(); r++) {
            Row row = rows.get(r);
            if (row.sort == 3) {
                if (before != null && due != null) {
                    long above = row.time[0] * before.time[1] - before.time[0] * row.time[1];
                    if (!Arrays.equals(fraction(above, row.time[1] * before.time[1]), due)) {
                        return r;
                    }
                }
                before = row;
                due = meter;
            }
            for (String token : row.tokens) {
                Matcher m = METER.matcher(token);
                meter = m.matches() ? fraction(Long.parseLong(m.group(1)), Long.parseLong(m.group(2))) : meter;
            }
        }
        return NONE;
    }

    String written() {
        StringBuilder text = new StringBuilder();
        for (Row row : rows) {
            text.append(row.line).append('\n');
        }
        return text.toString();
    }

    private int firstRecord() {
        int r = 0;
        while (r < rows.size() && rows.get(r).sort == 0) {
            r++;
        }
        return r;
    }

    /** The RECORD behind one with *+ tells, at the place of the new STRAND, its KIND; "": there is no *+. */
    private String begunKind(int r) {
        if (!rows.get(r).tokens.contains("*+")) {
            return "";
        }
        int record = r + 1;
        while (rows.get(record).sort == 0) {
            record++;
        }
        List<Strand> next = behind(rows.get(r));
        for (int i = 0; i < next.size(); i++) {
            if (next.get(i).isNew) {
                return rows.get(record).strands.get(i).kind;
            }
        }
        return "";
    }

    int extractAnswer(String kind) {
        int first = firstRecord();
        if (first == rows.size() || !rows.get(first).tokens.contains("**" + kind)) {
            return UNKNOWN;
        }
        for (int r = 0; r < rows.size(); r++) {
            int add = rows.get(r).tokens.indexOf("*+");
            if (begunKind(r).equals(kind) && !rows.get(r).strands.get(add).kind.equals(kind)) {
                return OTHER;
            }
        }
        return 0;
    }

    String extract(String kind) {
        StringBuilder text = new StringBuilder();
        for (int r = 0; r < rows.size(); r++) {
            Row row = rows.get(r);
            List<String> tokens = new ArrayList<>();
            for (int i = 0; i < row.tokens.size(); i++) {
                if (row.strands.get(i).kind.equals(kind)) {
                    tokens.add(extracted(row, r, i, kind));
                }
            }
            String lone = new String[] {"", "!", "*", "", "."}[row.sort];
            boolean goes = true;
            for (String token : tokens) {
                goes &= token.equals(lone);
            }
            text.append(goes ? "" : String.join("\t", tokens) + "\n");
        }
        return text.toString();
    }

    private String extracted(Row row, int r, int i, String kind) {
        String token = row.tokens.get(i);
        if (token.equals("*x")) {
            int other = i > 0 && row.tokens.get(i - 1).equals("*x") ? i - 1 : i + 1;
            return row.strands.get(other).kind.equals(kind) ? token : "*";
        }
        return token.equals("*+") && !begunKind(r).equals(kind) ? "*" : token;
    }

    /** The text; null: BARS do not meet. */
    static String assemble(Plain a, Plain b) {
        StringBuilder text = new StringBuilder();
        Plain[] both = {a, b};
        int[] next = {a.firstRecord(), b.firstRecord()};
        int[] there = {0, 0};
        for (int side = 0; side < 2; side++) {
            for (int r = 0; r < next[side]; r++) {
                text.append(both[side].rows.get(r).line).append('\n');
            }
        }
        boolean firsts = next[0] < a.rows.size() && next[1] < b.rows.size();
        while (next[0] < a.rows.size() || next[1] < b.rows.size()) {
            int side = firsts ? 2 : chosen(both, next);
            firsts = false;
            if (side < 0) {
                return null;
            }
            if (side == 2) {
                text.append(a.rows.get(next[0]).line).append('\t').append(b.rows.get(next[1]).line).append('\n');
                there[0] = behind(a.rows.get(next[0]++)).size();
                there[1] = behind(b.rows.get(next[1]++)).size();
                continue;
            }
            boolean goesOn = true;
            while (goesOn) {
                Row row = both[side].rows.get(next[side]++);
                if (row.sort == 3 && there[1 - side] > 0) {
                    return null;
                }
                String lone = new String[] {"", "!", "*", "", "."}[row.sort];
                String others = row.sort == 0 ? "" : ("\t" + lone).repeat(there[1 - side]);
                text.append(side == 0 || others.isEmpty() ? row.line + others : others.substring(1) + "\t" + row.line).append('\n');
                there[side] = row.sort == 0 ? there[side] : behind(row).size();
                goesOn = row.tokens.contains("*+") || row.sort == 0 && isAwaited(both[side], next[side] - 1);
            }
        }
        return text.toString();
    }

    /** Whether a REMARK stands between a *+ and the RECORD that tells its KIND. */
    private static boolean isAwaited(Plain table, int r) {
        int at = r;
        while (at >= 0 && table.rows.get(at).sort == 0) {
            at--;
        }
        return at >= 0 && table.rows.get(at).tokens.contains("*+");
    }

    /** 0 or 1: that one alone; 2: both as one ROW; below 0: BARS do not meet. */
    private static int chosen(Plain[] both, int[] next) {
        if (next[0] == both[0].rows.size() || next[1] == both[1].rows.size()) {
            return next[0] == both[0].rows.size() ? 1 : 0;
        }
        Row a = both[0].rows.get(next[0]);
        Row b = both[1].rows.get(next[1]);
        int order = compare(a.time, b.time);
        if (order != 0) {
            return order < 0 ? 0 : 1;
        }
        if (a.sort < 3 || b.sort < 3) {
            return a.sort < 3 ? 0 : 1;
        }
        boolean meet = a.sort == b.sort && (a.sort == 4 || a.tokens.get(0).equals(b.tokens.get(0)));
        return meet ? 2 : NONE;
    }
}
