import java.util.ArrayList;
import java.util.List;
import java.util.Random;

/** Texts made at random from a seed, almost all of them right, whose DATA FIT most of the time; and spoiled ones. */
final class Texts {
    static final String[] KINDS = {"kern", "recip", "text", "dyn"};
    private static final String[] NOTES = {"!", "!", "!n", "!!", "!!x", "!*M1/2"};
    /** LENGTHS with how many sixteenths they are. */
    private static final String[] LENGTHS = {"16", "8", "8.", "4", "4.", "2", "8%2", "1%1", "0"};
    private static final int[] SIXTEENTHS = {1, 2, 3, 4, 6, 8, 4, 16, 32};
    private static final String SPOILERS = "*!=.\t\n^vx-+4c8#%/M ak\u0080\u0007";

    private static final class Voice {
        final String kind;
        final int end;

        Voice(String kind, int end) {
            this.kind = kind;
            this.end = end;
        }

        boolean hasRhythm() {
            return kind.equals("kern") || kind.equals("recip");
        }
    }

    private final Random random;
    private List<Voice> voices = new ArrayList<>();
    private final List<String> rows = new ArrayList<>();
    private int now = 0;
    private boolean hasBars = false;
    private int barred = 0;

    Texts(long seed) {
        random = new Random(seed);
    }

    private String one(String... of) {
        return of[random.nextInt(of.length)];
    }

    private boolean chance(int of) {
        return random.nextInt(of) == 0;
    }

    /** A text with rows of all SORTS; seldom one that has too many STRANDS. */
    String right() {
        voices.clear();
        rows.clear();
        now = 0;
        barred = 0;
        hasBars = chance(2);
        putRemarks(4);
        if (chance(20)) {
            return text();
        }
        List<String> first = new ArrayList<>();
        for (int i = chance(12) ? 4 + random.nextInt(9) : random.nextInt(4); i >= 0 && voices.size() < 12; i--) {
            voices.add(new Voice(one(KINDS), 0));
            first.add("**" + voices.get(voices.size() - 1).kind);
        }
        rows.add(String.join("|", first));
        int most = 2 + random.nextInt(14);
        for (int n = 0; n < most && !voices.isEmpty(); n++) {
            putAny();
        }
        for (int n = 0; n < 100 && !voices.isEmpty(); n++) {
            putEnds();
        }
        putRemarks(3);
        return text();
    }

    private String text() {
        String text = Trial.rows(rows.toArray(new String[0]));
        return chance(3) && !text.isEmpty() ? text.substring(0, text.length() - 1) : text;
    }

    /** A text in which a byte or some are not as they were. */
    String spoiled() {
        StringBuilder text = new StringBuilder(right());
        for (int n = random.nextInt(3); n >= 0 && text.length() > 0; n--) {
            int at = random.nextInt(text.length());
            char b = SPOILERS.charAt(random.nextInt(SPOILERS.length()));
            switch (random.nextInt(4)) {
                case 0:
                    text.deleteCharAt(at);
                    break;
                case 1:
                    text.insert(at, b);
                    break;
                case 2:
                    text.setCharAt(at, b);
                    break;
                default:
                    text.setLength(at);
            }
        }
        return text.toString();
    }

    private void putRemarks(int of) {
        for (int n = 0; n < 2 && chance(of); n++) {
            rows.add("!!" + one("", "a", "b|c", "!", "|"));
        }
    }

    private void putAny() {
        putBars();
        switch (random.nextInt(9)) {
            case 0:
                rows.add("!!" + one("", "a", "b|c"));
                break;
            case 1:
                putNotes();
                break;
            case 2:
            case 3:
            case 4:
                putActs();
                break;
            default:
                putData();
        }
    }

    private void putNotes() {
        List<String> tokens = new ArrayList<>();
        tokens.add(one("!", "!n"));
        while (tokens.size() < voices.size()) {
            tokens.add(one(NOTES));
        }
        rows.add(String.join("|", tokens));
    }

    /** BARS at each half, so that those of two texts may meet. */
    private void putBars() {
        boolean due = now > barred && now % 8 == 0;
        if (hasBars && due || chance(25)) {
            barred = now;
            String bar = "=" + (chance(30) ? "x" : now / 8);
            rows.add(bar + ("|" + one(bar, "=")).repeat(voices.size() - 1));
        }
    }

    private void putData() {
        List<String> tokens = new ArrayList<>();
        List<Voice> next = new ArrayList<>();
        boolean any = false;
        for (Voice voice : voices) {
            int pick = random.nextInt(chance(4) ? LENGTHS.length : 6);
            boolean sounds = voice.hasRhythm() && (voice.end == now) != chance(60);
            String length = LENGTHS[pick];
            String rhythmic = voice.kind.equals("kern") ? sound(length) : length + one("", "r");
            tokens.add(sounds ? rhythmic : voice.hasRhythm() ? "." : one(".", ".", "x", "la", ". ", ".."));
            next.add(sounds ? new Voice(voice.kind, now + SIXTEENTHS[pick]) : voice);
            any |= voice.hasRhythm();
        }
        if (any || chance(15)) {
            rows.add(String.join("|", tokens));
            voices = next;
            moveOn();
        }
    }

    private String sound(String length) {
        String sound = one("", "", "(", "[{") + length + one("c", "dd", "F", "GGGG#", "a--", "bn", "r") + one("", "", ")", "_;");
        return chance(5) ? sound + " " + length + one("e", "r", chance(20) ? "h" : "f") : sound;
    }

    private void moveOn() {
        int least = Integer.MAX_VALUE;
        for (Voice voice : voices) {
            least = voice.hasRhythm() ? Math.min(least, voice.end) : least;
        }
        now = least == Integer.MAX_VALUE ? now : least;
    }

    /** A RECORD of ACTS that has these TOKENS from voice i on; else * or what tells something. */
    private void put(int i, String... acts) {
        List<String> tokens = new ArrayList<>();
        for (int n = 0; n < voices.size(); n++) {
            boolean given = n >= i && n < i + acts.length;
            tokens.add(given ? acts[n - i] : one("*", "*", "*", "*I", "*M1/2", "*M" + (1 + random.nextInt(9)) + "/16", "*vv"));
        }
        rows.add(String.join("|", tokens));
    }

    private void putActs() {
        int i = random.nextInt(voices.size());
        boolean hasNext = i + 1 < voices.size();
        Voice voice = voices.get(i);
        switch (random.nextInt(6)) {
            case 0:
                if (voices.size() < 12 || chance(10)) {
                    put(i, "*^");
                    voices.add(i, voice);
                }
                break;
            case 1:
                putNew(i);
                break;
            case 2:
                if (hasNext && voices.get(i + 1).kind.equals(voice.kind) && (voices.get(i + 1).end == voice.end || chance(8))) {
                    put(i, "*v", "*v");
                    voices.remove(i + 1);
                }
                break;
            case 3:
                if (hasNext) {
                    put(i, "*x", "*x");
                    voices.add(i, voices.remove(i + 1));
                }
                break;
            case 4:
                if (voice.end == now || !voice.hasRhythm() || chance(8)) {
                    put(i, "*-");
                    voices.remove(i);
                }
                break;
            default:
                put(i, one("*", "*K", "*M1/2", "*M2/4", "*M0/4"));
        }
        moveOn();
    }

    private void putNew(int i) {
        if (voices.size() >= 12 && !chance(10)) {
            return;
        }
        put(i, "*+");
        Voice fresh = new Voice(one(voices.get(i).kind, one(KINDS)), now);
        voices.add(i + 1, fresh);
        putRemarks(3);
        put(i + 1, "**" + fresh.kind);
    }

    /** Those end that may; others sound on. */
    private void putEnds() {
        List<String> tokens = new ArrayList<>();
        List<Voice> next = new ArrayList<>();
        boolean others = false;
        for (Voice voice : voices) {
            others |= voice.hasRhythm() && voice.end != now;
        }
        for (Voice voice : voices) {
            boolean ends = voice.hasRhythm() ? voice.end == now : !others || chance(2);
            tokens.add(ends ? "*-" : "*");
            if (!ends) {
                next.add(voice);
            }
        }
        rows.add(String.join("|", tokens));
        voices = next;
        moveOn();
        if (!voices.isEmpty()) {
            putBars();
        }
    }
}
