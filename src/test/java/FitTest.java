/** THE WALK and THE METER, sentence by sentence. */
public final class FitTest {
    private static final Trial T = new Trial();
    private static final int NONE = SpineTables.NONE;

    private static void misfit(int row, int which, String... rows) {
        T.right(rows);
        String told = String.join(" / ", rows);
        T.due("walk of " + told, T.x.walk(0), row);
        T.due("misfit of " + told, T.x.misfit(0), which);
    }

    private static void fits(String... rows) {
        misfit(NONE, 0, rows);
    }

    /** The TIMES of all ROWS, and NOW behind all, as a text like "0 1/4 1/4". */
    private static void dueTimes(String due) {
        String[] times = due.split(" ");
        T.due("rows", T.x.told(0, 0), times.length - 1);
        for (int r = 0; r < times.length; r++) {
            String[] parts = (times[r] + "/1").split("/");
            T.due("time of " + r + " above", T.x.time(0, r, 0), Integer.parseInt(parts[0]));
            T.due("time of " + r + " below", T.x.time(0, r, 1), Integer.parseInt(parts[1]));
        }
        T.noIndex("one more", () -> T.x.time(0, times.length, 0));
        T.noIndex("none ahead", () -> T.x.time(0, -1, 0));
    }

    /** NOW is 0, the END of each STRAND of the first RECORD 0; a ROW's TIME is NOW as it is ahead of the ROW. */
    private static void times() {
        fits("!!", "**recip|**kern", "!!", "*|*", "!|!", "4|4c", "!!", "=|=", "!|!", "8|4.c", "*|*", "4|.", "*-|*-", "!!");
        dueTimes("0 0 0 0 0 0 1/4 1/4 1/4 1/4 3/8 3/8 5/8 5/8 5/8");
        fits();
        dueTimes("0");
        fits("!!");
        dueTimes("0 0");
        fits("**text", "*", "=", "!", "*-");
        dueTimes("0 0 0 0 0 0");
        fits("**recip", "4", "2%3", "0", "*-");
        dueTimes("0 0 1/4 7/4 15/4 15/4");
    }

    /** DATA: MISFIT 4, if no STRAND has RHYTHM. */
    private static void noRhythm() {
        misfit(1, 4, "**text", ".", "*-");
        misfit(1, 4, "**text|**kerns", "4|4c", "*-|*-");
        misfit(3, 4, "**text|**kern", "a|4c", "*|*-", "b", "*-");
        fits("**text|**kern", "a|4c", "b|4c", "*|*-", "=", "!", "*", "*-");
        fits("**text", "*+", "*|**recip", "a|4", "*-|*-");
        misfit(4, 4, "**text", "*+", "*|**recip", "*|*-", "a", "*-");
        fits(Trial.all(11, "**text") + "|**kern", Trial.all(11, "x") + "|4c", Trial.all(12, "*-"));
    }

    /** MISFIT 3 with . alone, if its END is NOW. */
    private static void pointAlone() {
        misfit(1, 3, "**recip", ".", "*-");
        misfit(2, 3, "**recip", "4", ".", "*-");
        misfit(2, 3, "**recip|**recip", "4|2", ".|.", "*-|*-");
        fits("**recip|**recip", "4|2", "4|.", "*-|*-");
        misfit(3, 3, "**recip|**recip", "4|2", "4|.", "4|.", "*-|*-");
        fits("**text|**recip", ".|4", ".|4", "*-|*-");
        misfit(1, 1, "**recip", "..", "*-");
    }

    /** With another TOKEN 1, if that has no LENGTH, else 2, if its END is not NOW. */
    private static void otherTokens() {
        misfit(1, 1, "**recip", "x", "*-");
        misfit(1, 1, "**kern", "4", "*-");
        misfit(1, 1, "**recip", "4c", "*-");
        misfit(2, 1, "**recip|**recip", "4|2", "4|x", "*-|*-");
        misfit(2, 2, "**recip|**recip", "4|2", "4|4", "*-|*-");
        misfit(2, 2, "**recip|**recip", "4|2", "4|4.", "*-|*-");
        fits("**text|**recip", "x|4", "x|4", "*-|*-");
        fits("**recip|**recip", "4|2", "4|.", "4|4", "*-|*-");
    }

    /** From the left, of those that have RHYTHM. */
    private static void fromTheLeft() {
        String[] one = {"**recip|**text|**recip", "4|x|2", ".|x|x", "*-|*-|*-"};
        misfit(2, 3, one);
        one[2] = "x|x|4";
        misfit(2, 1, one);
        String[] other = {"**recip|**text|**recip", "2|x|4", "4|x|.", "*-|*-|*-"};
        misfit(2, 2, other);
        other[2] = "x|x|.";
        misfit(2, 1, other);
        other[2] = ".|x|.";
        misfit(2, 3, other);
        other[2] = ".|x|x";
        misfit(2, 1, other);
        other[2] = ".|.|8";
        misfit(3, 7, other);
        other[2] = ".|.|4";
        fits(other);
    }

    /** Each of these with another TOKEN than .: its END is NOW and the LENGTH. */
    private static void ends() {
        fits("**recip|**kern|**recip", "4|2c|8", ".|.|8", "4|.|4.", "2|8c|.", ".|4.c|8", ".|.|4", "*-|*-|*-");
        dueTimes("0 0 1/8 1/4 1/2 5/8 3/4 1 1");
    }

    /** MISFIT 5, if one of its parts is 10^9 or more: the lower one. */
    private static void tooFine() {
        fits("**recip", "997", "991", "506.", "*-");
        T.due("the greatest lower part", T.x.time(0, 4, 1), 999883324);
        misfit(3, 5, "**recip", "997", "991", "127...", "*-");
        misfit(3, 5, "**recip|**recip", "997|997", "991|991", "506.|127...", "*-|*-");
        misfit(3, 5, "**recip|**recip", "997|997", "991|991", "127...|506.", "*-|*-");
    }

    /** MISFIT 5: the upper part, of 10^9 - 1 and of 10^9. */
    private static void tooGreat() {
        fits("**recip", "997%328", "991%782", "1%999", "1%12", "*-");
        T.due("the greatest upper part", T.x.time(0, 5, 0), 999999999);
        T.due("its lower part", T.x.time(0, 5, 1), 988027);
        misfit(4, 5, "**recip", "997%494", "991%617", "1%999", "1%12", "*-");
        misfit(4, 5, "**recip", "997%495", "991%617", "1%999", "1%12", "*-");
        misfit(4, 5, "**recip", "997%494", "991%617", "1%999", "1%999", "*-");
        misfit(4, 5, "**text|**recip|**kern", "x|997%494|997%494c", "x|991%617|991%617c", "x|1%999|1%999c", "x|1%11|1%12c", "*-|*-|*-");
        misfit(4, 5, "**text|**recip|**kern", "x|997%494|997%494c", "x|991%617|991%617c", "x|1%999|1%999c", "x|1%12|1%11c", "*-|*-|*-");
        // All else of the RECORD is looked at ahead of it.
        misfit(4, 3, "**recip|**recip", "997%494|997%494", "991%617|991%617", "1%999|1%999", "1%12|.", "*-|*-");
        misfit(4, 1, "**recip|**recip", "997%494|997%494", "991%617|991%617", "1%999|1%999", "1%12|x", "*-|*-");
    }

    /** MISFIT 6 at a *v whose END is not that of the first of its group. */
    private static void joins() {
        fits("**recip|**recip", "4|4", "*v|*v", "4", "*-");
        misfit(2, 6, "**recip|**recip", "4|2", "*v|*v", "4", "*-");
        misfit(2, 6, "**recip|**recip|**recip", "4|4|2", "*v|*v|*v", "4", "*-");
        misfit(2, 6, "**recip|**recip|**recip", "2|4|2", "*v|*v|*v", "4", "*-");
        misfit(2, 6, "**text|**recip|**recip", "x|4|2", "*|*v|*v", "*-|*-");
        misfit(2, 6, "**recip|**recip|**recip|**recip", "4|4|4|2", "*|*|*v|*v", "*-|*-|*-");
        misfit(2, 6, "**recip|**recip|**recip|**recip", "4|2|2|4", "*|*v|*v|*v", "*-|*-");
        // Both may sound on behind NOW.
        fits("**recip|**recip|**recip", "4|2|2", "*|*v|*v", "4|.", "*-|*-");
        dueTimes("0 0 1/4 1/4 1/2 1/2");
        fits("**text|**text|**recip", "x|.|4", "*v|*v|*", "*-|*-");
        fits("**recip|**recip|**recip", "2|2|4", "*v|*v|*", ".|4", "*-|*-");
    }

    /** MISFIT 7 at a *-, if its END is not NOW. */
    private static void finishes() {
        fits("**recip|**recip", "4|2", "*-|*", "2", "*-");
        misfit(2, 7, "**recip|**recip", "4|2", "*|*-", "2", "*-");
        misfit(2, 7, "**recip|**recip", "4|2", "*-|*-");
        fits("**recip|**text", "4|x", "*|*-", "4", "*-");
        fits("**text|**recip", "x|4", "*-|*", "4", "*-");
        // 6 and 7 from the left.
        misfit(2, 7, "**recip|**recip|**recip|**recip", "2|4|2|4", "*-|*v|*v|*", "4|4", "*-|*-");
        misfit(2, 6, "**recip|**recip|**recip|**recip", "4|2|2|4", "*v|*v|*-|*", "4|4", "*-|*-");
        misfit(3, 7, "**recip|**recip|**recip", "4|4|2", "*v|*v|*", "*|*-", "*-");
    }

    /** By *^ both have its END, by *v that of the first. */
    private static void endsGoOn() {
        fits("**recip|**recip", "2|4", "*^|*", ".|.|4", "4|8|4", ".|8|.", "*-|*-|*-");
        dueTimes("0 0 1/4 1/4 1/2 5/8 3/4 3/4");
        misfit(3, 2, "**recip|**recip", "2|4", "*^|*", ".|4|4", "*-|*-|*-");
        misfit(3, 2, "**recip|**recip", "2|4", "*^|*", "4|.|4", "*-|*-|*-");
        fits("**recip|**recip|**recip", "2|2|4", "*v|*v|*", ".|4", "4|4", "*-|*-");
        misfit(3, 2, "**recip|**recip|**recip", "2|2|4", "*v|*v|*", "4|4", "4|4", "*-|*-");
        misfit(3, 2, "**recip|**recip", "4|2", "*x|*x", "4|.", "*-|*-");
        fits("**recip|**recip", "4|2", "*x|*x", ".|4", "*-|*-");
    }

    /** A new one has NOW, as it was ahead of the ROW; its RHYTHM is that of the KIND which the next RECORD tells. */
    private static void newOnes() {
        String[] rows = {"**recip|**recip", "4|2", "*-|*+", "!!", "*|**recip", ".|4", "*-|*-"};
        fits(rows);
        dueTimes("0 0 1/4 1/4 1/4 1/4 1/2 1/2");
        rows[4] = "*|**text";
        rows[5] = "4|x";
        fits(rows);
        dueTimes("0 0 1/4 1/2 1/2 1/2 3/4 3/4");
        misfit(5, 3, "**recip|**recip", "4|2", "*-|*+", "!!", "*|**kern", ".|.", "*-|*-");
        // Ahead of the ROW, not behind it.
        misfit(4, 1, "**recip|**recip", "4|2", "*-|*+", "*|**recip", ".|x", "*-|*-");
        fits("**text|**recip", "x|4", "*+|*-", "*|**recip", "x|4", "*-|*-");
        dueTimes("0 0 1/4 1/4 1/4 1/2 1/2");
    }

    /** Behind DATA and ACTS NOW is the least END of the STRANDS with RHYTHM that there are then; it stays without. */
    private static void now() {
        fits("**recip|**recip|**text", "4|2|x", "*-|*|*", "=|=", "*|*", "2|x", "*-|*", "!", "*^", "*+|*", "*|**kern|*", "x|4c|x", "*-|*-|*-");
        dueTimes("0 0 1/4 1/2 1/2 1/2 1 1 1 1 1 1 5/4 5/4");
        fits("**recip|**recip|**recip", "1|2|4", ".|.|4", "*|*-|*-", "4", "*-");
        dueTimes("0 0 1/4 1/2 1 5/4 5/4");
    }

    /** All twelve STRANDS count, the last one like the others. */
    private static void twelveStrands() {
        String first = Trial.all(12, "**recip");
        String end = Trial.all(12, "*-");
        fits(first, Trial.all(11, "2") + "|4", Trial.all(11, ".") + "|4", end);
        dueTimes("0 0 1/4 1/2 1/2");
        fits(first, Trial.all(11, "4") + "|2", Trial.but(12, 0, "*"), Trial.all(11, "4") + "|.", end);
        dueTimes("0 0 1/4 1/4 1/2 1/2");
        misfit(3, 2, first, Trial.all(11, "4") + "|2", Trial.but(12, 0, "*"), Trial.all(11, "4") + "|4", end);
        misfit(2, 7, first, Trial.all(11, "4") + "|2", Trial.but(12, 11, "*-"), Trial.all(11, "*-"));
        misfit(2, 6, first, Trial.all(11, "4") + "|2", Trial.but(12, 10, "*v", "*v"), Trial.all(11, "*-"));
        misfit(1, 1, first, Trial.all(11, "4") + "|x", end);
        misfit(3, 3, first, Trial.all(11, "4") + "|2", Trial.but(12, 10, "*x", "*x"), Trial.all(10, "4") + "|.|.", end);
        // One that is split comes to stand last; so does a new one.
        String eleven = Trial.all(10, "4") + "|2";
        fits(Trial.all(11, "**recip"), eleven, Trial.but(11, 10, "*^"), Trial.all(10, "4") + "|.|.", end);
        dueTimes("0 0 1/4 1/4 1/2 1/2");
        misfit(3, 2, Trial.all(11, "**recip"), eleven, Trial.but(11, 10, "*^"), Trial.all(10, "4") + "|.|4", end);
        fits(Trial.all(11, "**recip"), eleven, Trial.but(11, 10, "*+"), Trial.but(12, 11, "**recip"), Trial.all(10, "4") + "|.|4", end);
        misfit(4, 3, Trial.all(11, "**recip"), eleven, Trial.but(11, 10, "*+"), Trial.but(12, 11, "**recip"), Trial.all(10, "4") + "|.|.", end);
    }

    /** The first MISFIT counts; without one the table FITS. */
    private static void firstCounts() {
        misfit(1, 1, "**recip", "x", ".", "*-");
        misfit(1, 3, "**recip", ".", "x", "*-");
        misfit(2, 7, "**recip|**recip", "4|2", "*|*-", "x", "*-");
        misfit(4, 6, "**recip|**recip", "4|4", "=|=", "4|2", "*v|*v", "*-");
    }

    private static void bars(int due, String... rows) {
        fits(rows);
        T.due("bars of " + String.join(" / ", rows), T.x.bars(0), due);
    }

    /** n and d of *Mn/d have 1 to 2 digits, the first not 0. */
    private static void meters() {
        for (String meter : new String[] {"*M1/4", "*M9/36", "*M10/40", "*M24/96", "*M3/12"}) {
            bars(NONE, "**recip", meter, "=", "4", "=", "*-");
            bars(4, "**recip", meter, "=", "2", "=", "*-");
        }
        bars(NONE, "**recip", "*M99/1", "=", "1%99", "=", "*-");
        bars(4, "**recip", "*M99/1", "=", "1%98", "=", "*-");
        bars(NONE, "**recip", "*M1/99", "=", "99", "=", "*-");
        for (String other : new String[] {"*M0/4", "*M01/4", "*M1/04", "*M1/0", "*M00/4", "*M100/4", "*M1/100", "*M1/", "*M/4", "*M/", "*M", "*M1",
            "*M1/4 ", "*M 1/4", "*M1 /4", "*M1/4/4", "*m1/4", "*M1%4", "*M-1/4", "*MM1/4", "*1/4", "*M1/4.", "*M12", "*M123", "*M1234"}) {
            bars(NONE, "**recip", other, "=", "4", "4", "=", "*-");
            bars(NONE, "**recip", other, "=", "2", "=", "4", "4", "8", "=", "*-");
            bars(NONE, "**recip", "*M1/2", other, "=", "2", "=", "*-");
            bars(5, "**recip", "*M1/4", other, "=", "2", "=", "*-");
        }
    }

    /** The latest one, of one RECORD the last one, in a RECORD ahead of the ROW. */
    private static void latestMeter() {
        bars(NONE, "**recip", "*M1/2", "*M1/4", "=", "4", "=", "*-");
        bars(5, "**recip", "*M1/4", "*M1/2", "=", "4", "=", "*-");
        bars(NONE, "**recip|**text|**text", "*M1/2|*M1/4|*", "=|=|=", "4|x|x", "=|=|=", "*-|*-|*-");
        bars(4, "**recip|**text|**text", "*M1/4|*|*M1/2", "=|=|=", "4|x|x", "=|=|=", "*-|*-|*-");
        bars(NONE, "**recip|**text", "*|*M1/4", "=|=", "4|x", "=|=", "*-|*-");
        bars(4, "**recip|**text", "*|*M1/2", "=|=", "4|x", "=|=", "*-|*-");
        // What is no ACT is no METER.
        bars(NONE, "**recip", "!*M1/2", "!!*M1/2", "=", "4", "=*M1/2", "4", "=", "*-");
        // One behind the BARS before is not at those.
        bars(NONE, "**recip", "=", "*M1/2", "4", "=", "2", "=", "*-");
        bars(6, "**recip", "=", "*M1/2", "4", "=", "4", "=", "*-");
        bars(NONE, "**recip", "*M1/4", "=", "*M1/2", "4", "=", "*-");
    }

    /** The first ROW of BARS that is not the first such, whose TIME less that of the BARS before is not THE METER. */
    private static void wrongBars() {
        bars(NONE, "**recip", "*M1/4", "*-");
        bars(NONE, "**recip", "*M1/4", "2", "=", "*-");
        bars(NONE, "**recip", "*M1/4", "2", "=", "2", "*-");
        bars(3, "**recip", "*M1/4", "=", "=", "*-");
        bars(4, "**recip", "*M1/4", "=", "8", "=", "4", "=", "*-");
        bars(6, "**recip", "*M1/4", "=", "4", "=", "4.", "=", "8", "=", "*-");
    }

    public static void main(String[] args) {
        times();
        noRhythm();
        pointAlone();
        otherTokens();
        fromTheLeft();
        ends();
        tooFine();
        tooGreat();
        joins();
        finishes();
        endsGoOn();
        newOnes();
        now();
        twelveStrands();
        firstCounts();
        meters();
        latestMeter();
        wrongBars();
        T.end("FitTest");
    }
}
