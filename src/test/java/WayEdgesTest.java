/** Terms, 3, and promises 35 to 42: each sentence that names an edge of ways below and of who let go. */
public final class WayEdgesTest {
    private static final int NONE = LateFalls.NONE;
    private static final int MAX = Integer.MAX_VALUE;
    private static final int MIN = Integer.MIN_VALUE;

    public static void main(String[] args) {
        aColumnLessMoreOrNone();
        thisHourAside();
        within60Hours();
        askedAgain();
        whereItBegins();
        theFirstByColumns();
        whatOfAWay();
        waysOfJustSoMany();
        waysInUpTo60();
        shelterUpTo60();
        laterUpTo8();
        agoUpTo60();
        notAheadOfHour0();
        heldUpTo60();
        weights();
        byAgoThenHeld();
        hourOfLettingGo();
        levelsAsBits();
        levelsWithinBounds();
        Check.end();
    }

    /** "each HOUR a COLUMN less, more, or none": and none beyond the first or the last. */
    private static void aColumnLessMoreOrNone() {
        LateFalls x = Check.of("fall 6 1;");
        for (int from = 0; from < 6; from++) {
            for (int to = 0; to < 6; to++) {
                Check.due("safeWay(" + from + ", " + to + ", 0)", x.safeWay(from, to, 0), Math.abs(from - to));
            }
        }
        int[] reached = {1, 3, 7, 15, 31, 63, 63};
        int[] back = {32, 48, 56, 60, 62, 63, 63};
        for (int n = 0; n < 7; n++) {
            Check.due("safeIn(0, " + n + ")", x.safeIn(0, n), reached[n]);
            Check.due("safeIn(5, " + n + ")", x.safeIn(5, n), back[n]);
        }
        LateFalls one = new LateFalls();
        Check.due("one column alone", one.safeIn(0, 60), 1);
        Check.due("its ways", one.safeWays(0, 0, 20), 1);
        LateFalls three = Check.of("fall 3 1;");
        Check.due("no way beyond the last", three.safeIn(2, 60), 7);
    }

    /** "SAFE, if in no HOUR on it, this one aside, something falls in the COLUMN where one is then". */
    private static void thisHourAside() {
        LateFalls x = Check.of("fall 2 4;thing 9 held 0;thing 8 up 0 3 for 1;");
        x.letGo(0, 1, 3);
        Check.due("what fell in this hour counts for nothing", x.safeWay(1, 1, 0), 0);
        Check.due("from where something falls next", x.safeWay(0, 0, 0), 0);
        Check.due("of no hours", x.safeIn(0, 0), 1);
        Check.due("of one hour", x.safeIn(0, 1), 2);
        Check.due("of two hours", x.safeIn(0, 2), 3);
        Check.due("no way of one hour to there", x.safeWays(0, 0, 1), 0);
        Check.due("nor from beside it", x.safeWays(1, 0, 1), 0);
        Check.due("beside it", x.safeWays(1, 1, 1), 1);
        Check.due("two hours, past it", x.safeWays(0, 0, 2), 1);
    }

    /** Something falls in every column in the first hour. */
    private static LateFalls allShut() {
        return Check.of("fall 3 2;thing 1 up 0 1 for 1;thing 1 up 1 1 for 1;thing 1 up 2 1 for 1;");
    }

    /** "(within 60 HOURS)". */
    private static void within60Hours() {
        LateFalls x = allShut();
        Check.due("no way at all", x.safeWay(1, 0, 0), NONE);
        Check.due("no way of 60 hours", x.safeIn(1, 60), 0);
        Check.due("where one is", x.safeIn(1, 0), 2);
        // All is shut in hour 60 or 61: ways of 60 hours end in the one, and not in the other.
        String all = "fall 2 2;thing 1 up 0 1 for ";
        LateFalls in60 = Check.of(all + "60;thing 1 up 1 1 for 60;");
        Check.due("safe in 59", in60.safeIn(0, 59), 3);
        Check.due("shut in 60", in60.safeIn(0, 60), 0);
        LateFalls in61 = Check.of(all + "61;thing 1 up 1 1 for 61;");
        Check.due("safe in 60", in61.safeIn(0, 60), 3);
    }

    /** Asked again behind a deed: what fell or was taken falls no more. */
    private static void askedAgain() {
        LateFalls x = Check.of("fall 2 9;thing 1 up 0 8 for 1;thing 1 up 0 7 for 2;thing 1 up 0 6 for 60;frees:1=2;");
        Check.due("shut in the first hour", x.safeIn(0, 1), 2);
        Check.due("shut in hour 60", x.safeIn(0, 60), 2);
        Check.due("ways of two hours", x.safeWays(1, 0, 2), 0);
        x.take(0);
        Check.due("open in the first hour", x.safeIn(0, 1), 3);
        x.take(1);
        Check.due("ways of two hours then", x.safeWays(1, 0, 2), 2);
        Check.due("still shut in hour 60", x.safeIn(0, 60), 2);
        x.take(2);
        Check.due("open in hour 60", x.safeIn(0, 60), 3);
        x.undo(3);
        Check.due("shut again", x.safeIn(0, 1), 2);
        Check.due("shut again in hour 60", x.safeIn(0, 60), 2);
        x.quake();
        Check.due("all fell", x.safeIn(0, 60), 3);
    }

    private static void dueWay(LateFalls x, int from, int to, int... columns) {
        String way = "safeWay(" + from + ", " + to + ", ";
        Check.due(way + "0)", x.safeWay(from, to, 0), columns.length - 1);
        for (int k = 0; k < columns.length; k++) {
            Check.due(way + (10 + k) + ")", x.safeWay(from, to, 10 + k), columns[k]);
        }
        Check.due(way + "not so many)", x.safeWay(from, to, 10 + columns.length), NONE);
        Check.due(way + "70)", x.safeWay(from, to, 70), NONE);
    }

    /** "(0: where it begins; NONE: not so many)". */
    private static void whereItBegins() {
        LateFalls x = Check.of("fall 6 2;");
        dueWay(x, 3, 3, 3);
        dueWay(x, 3, 4, 3, 4);
        dueWay(x, 0, 5, 0, 1, 2, 3, 4, 5);
        dueWay(x, 5, 0, 5, 4, 3, 2, 1, 0);
    }

    /** "of the first of these by COLUMNS". */
    private static void theFirstByColumns() {
        // Column 2 is shut in hours 1, 2, 3; from 1 one may stay or go aside till then: 0 comes first.
        LateFalls x = Check.of("fall 5 4;thing 1 up 2 1 for 1;thing 1 up 2 2 for 2;thing 1 up 2 3 for 3;frees:1=2;");
        dueWay(x, 1, 2, 1, 0, 0, 1, 2);
        dueWay(x, 1, 3, 1, 0, 0, 1, 2, 3);
        dueWay(x, 3, 2, 3, 3, 3, 3, 2);
        // 4 is shut in the first hour.
        LateFalls y = Check.of("fall 5 4;thing 1 up 4 1 for 1;");
        dueWay(y, 3, 4, 3, 3, 4);
        LateFalls z = Check.of("fall 5 4;thing 1 up 4 1 for 1;thing 1 up 3 1 for 1;");
        dueWay(z, 3, 4, 3, 2, 3, 4);
    }

    /** "IllegalArgumentException: another what (10 to 70)". */
    private static void whatOfAWay() {
        LateFalls x = Check.of("fall 2 2;");
        int[] wrong = {-1, 1, 2, 9, 71, 100, MAX, MIN};
        for (int what : wrong) {
            Check.badArgument("safeWay(0, 1, " + what + ")", () -> x.safeWay(0, 1, what));
        }
        Check.due("safeWay(0, 1, 0)", x.safeWay(0, 1, 0), 1);
        Check.due("safeWay(0, 1, 10)", x.safeWay(0, 1, 10), 0);
        Check.due("safeWay(0, 1, 11)", x.safeWay(0, 1, 11), 1);
        Check.due("safeWay(0, 1, 12)", x.safeWay(0, 1, 12), NONE);
        Check.due("safeWay(0, 1, 70)", x.safeWay(0, 1, 70), NONE);
        LateFalls none = allShut();
        Check.due("no way, what 0", none.safeWay(1, 0, 0), NONE);
        Check.due("no way, what 10", none.safeWay(1, 0, 10), NONE);
        Check.due("no way, what 70", none.safeWay(1, 0, 70), NONE);
        Check.badArgument("no way, what 71", () -> none.safeWay(1, 0, 71));
    }

    /** Where nothing falls: of all rows of steps, hour by hour. */
    private static long count(int n, int from, int to, int columns) {
        long[] ways = new long[columns + 2];
        ways[from + 1] = 1;
        for (int hour = 0; hour < n; hour++) {
            long[] next = new long[columns + 2];
            for (int c = 1; c <= columns; c++) {
                next[c] = ways[c - 1] + ways[c] + ways[c + 1];
            }
            ways = next;
        }
        return ways[to + 1];
    }

    /** "of just n HOURS (0 to 20)". */
    private static void waysOfJustSoMany() {
        LateFalls x = Check.of("fall 6 1;");
        int[] wrong = {-1, 21, MAX, MIN};
        for (int n : wrong) {
            Check.badArgument("safeWays(0, 0, " + n + ")", () -> x.safeWays(0, 0, n));
        }
        Check.due("of none, to where one is", x.safeWays(2, 2, 0), 1);
        Check.due("of none, elsewhere", x.safeWays(2, 3, 0), 0);
        Check.due("too few hours", x.safeWays(0, 5, 4), 0);
        Check.due("just as many", x.safeWays(0, 5, 5), 1);
        Check.due("one hour more", x.safeWays(0, 5, 6), count(6, 0, 5, 6));
        Check.due("19 hours", x.safeWays(1, 4, 19), count(19, 1, 4, 6));
        Check.due("20 hours", x.safeWays(2, 3, 20), count(20, 2, 3, 6));
        LateFalls shut = Check.of("fall 6 2;thing 1 up 3 1 for 20;");
        Check.due("shut in hour 20", shut.safeWays(2, 3, 20), 0);
        Check.due("beside it", shut.safeWays(2, 2, 20), count(20, 2, 2, 6));
        LateFalls later = Check.of("fall 6 2;thing 1 up 3 1 for 21;");
        Check.due("shut in hour 21 alone", later.safeWays(2, 3, 20), count(20, 2, 3, 6));
    }

    /** "of just n HOURS (0 to 60), as bits". */
    private static void waysInUpTo60() {
        LateFalls x = Check.of("fall 6 1;");
        int[] wrong = {-1, 61, MAX, MIN};
        for (int n : wrong) {
            Check.badArgument("safeIn(0, " + n + ")", () -> x.safeIn(0, n));
        }
        Check.due("safeIn(5, 0)", x.safeIn(5, 0), 32);
        Check.due("safeIn(5, 60)", x.safeIn(5, 60), 63);
    }

    /** "for most HOURS from now (this one aside, 60 at most), the first". */
    private static void shelterUpTo60() {
        String two = "fall 2 2;thing 1 up 0 1 for ";
        Check.due("59 and 60", Check.of(two + "59;thing 1 up 1 1 for 60;").shelter(), 1);
        Check.due("60 and 61", Check.of(two + "60;thing 1 up 1 1 for 61;").shelter(), 1);
        Check.due("61 and 62: 60 hours each", Check.of(two + "61;thing 1 up 1 1 for 62;").shelter(), 0);
        Check.due("61 and never: 60 hours each", Check.of(two + "61;").shelter(), 0);
        Check.due("60 and never", Check.of(two + "60;").shelter(), 1);
        Check.due("1 and 1", Check.of(two + "1;thing 1 up 1 1 for 1;").shelter(), 0);
        Check.due("1 and 2", Check.of(two + "1;thing 1 up 1 1 for 2;").shelter(), 1);
        Check.due("2 and 1", Check.of(two + "2;thing 1 up 1 1 for 1;").shelter(), 0);
        Check.due("the last column alone", Check.of("fall 3 2;thing 1 up 0 1 for 1;thing 1 up 1 1 for 1;").shelter(), 2);
        LateFalls now = Check.of("fall 2 2;thing 1 held 0;thing 1 up 1 1 for 9;");
        now.letGo(0, 0, 1);
        Check.due("what fell in this hour counts for nothing", now.shelter(), 0);
    }

    /** "n HOURS (0 to 8) later". */
    private static void laterUpTo8() {
        LateFalls x = Check.of("fall 6 2;thing 5 up 0 1 for 1;thing 6 up 1 1 for 1;thing 7 up 2 1 for 1;thing 8 up 3 1 for 1;"
                + "walker 0 1 2 3 4 5 4 3;");
        int[] wrong = {-1, 9, MAX, MIN};
        for (int n : wrong) {
            Check.badArgument("later(0, " + n + ")", () -> x.later(0, n));
        }
        // In hour 1 + n the walker is in 1 2 3 4 5 4 3 0, and 1 again.
        int[] due = {6, 7, 8, 0, 0, 0, 8, 5, 6};
        for (int n = 0; n <= 8; n++) {
            Check.due("later(0, " + n + ")", x.later(0, n), due[n]);
        }
        Check.due("later(0, 0) is hurts(0)", x.later(0, 0), x.hurts(0));
    }

    /** "how many HOURS ago (0 to 60 ..)". */
    private static void agoUpTo60() {
        Check.due("59 hours ago", Check.of("fall 1 1;hour 99;hangs:59;").letGoBy(0, 0, 1), 61);
        Check.due("60 hours ago", Check.of("fall 1 1;hour 99;hangs:60;").letGoBy(0, 0, 1), 61);
        Check.due("61 hours ago", Check.of("fall 1 1;hour 99;hangs:61;").letGoBy(0, 0, 1), 0);
        Check.due("in this hour", Check.of("fall 1 1;hour 99;hangs:0;").letGoBy(0, 0, 1), 61);
        Check.due("below 0, in this hour", Check.of("fall 1 1;hour 99;hangs:0-5;").letGoBy(0, 0, 1), 61);
        Check.due("the last of them", Check.of("fall 1 1;hour 99;hangs:60;").letGoAt(0, 0, 1, 60), 6060);
        Check.due("none behind the last", Check.of("fall 1 1;hour 99;hangs:60;").letGoAt(0, 0, 1, 61), NONE);
    }

    /** "not ahead of HOUR 0". */
    private static void notAheadOfHour0() {
        for (int hour = 0; hour <= 62; hour++) {
            LateFalls x = Check.of("fall 1 1;hour " + hour + ";");
            Check.due("without a law, in hour " + hour, x.letGoBy(0, 0, 1), Math.min(61, hour + 1));
        }
        Check.due("in hour 7, 7 hours ago", Check.of("fall 1 1;hour 7;hangs:7;").letGoBy(0, 0, 1), 61);
        Check.due("in hour 6, 7 hours ago", Check.of("fall 1 1;hour 6;hangs:7;").letGoBy(0, 0, 1), 0);
        LateFalls passed = Check.of("fall 1 1;hangs:7;");
        passed.hours(6);
        Check.due("in hour 6 that came", passed.letGoBy(0, 0, 1), 0);
        passed.hours(1);
        Check.due("in hour 7 that came", passed.letGoBy(0, 0, 1), 61);
    }

    /** "how long HELD by then (0 to 60)": also ahead of HOUR 0. */
    private static void heldUpTo60() {
        Check.due("held 60", Check.of("fall 1 1;hour 5;hangs:(held-59)*3;").letGoAt(0, 0, 1, 60), 360);
        Check.due("not 61", Check.of("fall 1 1;hour 9;hangs:(held-59)*3;").letGoAt(0, 0, 1, 61), NONE);
        Check.due("held 0", Check.of("fall 1 1;hour 5;hangs:5-held*9;").letGoAt(0, 0, 1, 60), 500);
        Check.due("as many as there are", Check.of("fall 1 1;hour 5;hangs:5-held*9;").letGoBy(0, 0, 1), 61);
    }

    /** "of a WEIGHT (1 to 99)". */
    private static void weights() {
        LateFalls x = Check.of("fall 1 1;hour 99;hangs:weight-40;");
        int[] wrong = {0, -1, 100, MAX, MIN};
        for (int weight : wrong) {
            Check.badArgument("letGoBy, " + weight, () -> x.letGoBy(0, 0, weight));
            Check.badArgument("letGoAt, " + weight, () -> x.letGoAt(0, 0, weight, 0));
            Check.badArgument("levels, " + weight, () -> x.levels(0, weight, 0, 0));
        }
        Check.due("letGoBy, 1", x.letGoBy(0, 0, 1), 61);
        Check.due("letGoBy, 99", x.letGoBy(0, 0, 99), 61);
        Check.due("letGoAt, 1", x.letGoAt(0, 0, 1, 0), 0);
        Check.due("letGoAt, 99", x.letGoAt(0, 0, 99, 0), 5900);
        Check.due("levels, 1", x.levels(0, 1, 0, 0), 1);
        Check.due("levels, 99", x.levels(0, 99, 59, 0), 1);
    }

    /** "The k-th of these (by HOURS ago, then HELD)"; "NONE: not so many"; "k is below 0". */
    private static void byAgoThenHeld() {
        LateFalls x = Check.of("fall 1 1;hour 2;hangs:held-58;");
        // At once: held 0 to 58; an hour ago: 59; two hours ago: 60.
        for (int k = 0; k < 59; k++) {
            Check.due("letGoAt(0, 0, 1, " + k + ")", x.letGoAt(0, 0, 1, k), k);
        }
        Check.due("letGoAt(0, 0, 1, 59)", x.letGoAt(0, 0, 1, 59), 159);
        Check.due("letGoAt(0, 0, 1, 60)", x.letGoAt(0, 0, 1, 60), 260);
        Check.due("letGoAt(0, 0, 1, 61)", x.letGoAt(0, 0, 1, 61), NONE);
        Check.due("letGoAt(0, 0, 1, MAX)", x.letGoAt(0, 0, 1, MAX), NONE);
        Check.badArgument("letGoAt(0, 0, 1, -1)", () -> x.letGoAt(0, 0, 1, -1));
        Check.badArgument("letGoAt(0, 0, 1, MIN)", () -> x.letGoAt(0, 0, 1, MIN));
        LateFalls none = Check.of("fall 1 1;hour 2;hangs:9;");
        Check.due("none, the first", none.letGoAt(0, 0, 1, 0), NONE);
    }

    /** "by which its time were just this HOUR": the law's hour is that of letting go, modulo 24. */
    private static void hourOfLettingGo() {
        // In hour 30: let go a hours ago in hour (30 - a) modulo 24: a = 3 leads to 27, so 3; a = 15 to 15.
        LateFalls x = Check.of("fall 1 1;hour 30;hangs:hour;");
        Check.due("two hours", x.letGoBy(0, 0, 1), 122);
        Check.due("3 hours ago", x.letGoAt(0, 0, 1, 0), 300);
        Check.due("15 hours ago", x.letGoAt(0, 0, 1, 61), 1500);
        LateFalls lying = Check.of("fall 2 3;thing 1 on 1;thing 2 on 1;thing 3 up 1 2 for 9;hour 30;hangs:lying*7;");
        Check.due("as many as now lie there", lying.letGoAt(1, 0, 1, 0), 1400);
        Check.due("where none lies", lying.letGoAt(0, 0, 1, 0), 0);
    }

    /** "LEVELS from which ..., as bits". */
    private static void levelsAsBits() {
        LateFalls x = Check.of("fall 2 9;hour 20;hangs:level+column*3;");
        for (int l = 0; l < 9; l++) {
            Check.due("from level " + l, x.levels(0, 1, l, 0), 1 << l);
            Check.due("in the other column, from level " + l, x.levels(1, 1, l + 3, 0), 1 << l);
        }
        Check.due("from none", x.levels(0, 1, 9, 0), 0);
        Check.due("from all", Check.of("fall 2 9;hour 20;hangs:7;").levels(1, 1, 7, 0), 511);
        LateFalls low = Check.of("fall 1 1;hour 20;hangs:7;");
        Check.due("from the only one", low.levels(0, 1, 7, 0), 1);
        LateFalls filled = Check.of("fall 1 2;thing 1 on 0;thing 1 on 0;hour 20;hangs:7;");
        Check.due("whether one lies there or not", filled.levels(0, 1, 7, 0), 3);
    }

    /** "so many HOURS ago (0 to 60) .. HELD it so long (0 to 60)"; "ago (also ahead of HOUR 0)". */
    private static void levelsWithinBounds() {
        LateFalls x = Check.of("fall 1 1;hour 99;");
        int[] wrong = {-1, 61, MAX, MIN};
        for (int n : wrong) {
            Check.badArgument("levels, ago " + n, () -> x.levels(0, 1, n, 0));
            Check.badArgument("levels, held " + n, () -> x.levels(0, 1, 0, n));
        }
        Check.due("ago 0, held 0", x.levels(0, 1, 0, 0), 1);
        Check.due("ago 60, held 60", x.levels(0, 1, 60, 60), 1);
        Check.due("ago 0, held 60", x.levels(0, 1, 0, 60), 0);
        Check.due("ago 60, held 0", x.levels(0, 1, 60, 0), 0);
        LateFalls early = Check.of("fall 1 1;hour 5;");
        Check.due("ago 5 in hour 5", early.levels(0, 1, 5, 5), 1);
        Check.badArgument("ago 6 in hour 5", () -> early.levels(0, 1, 6, 6));
        early.hours(1);
        Check.due("ago 6 in hour 6", early.levels(0, 1, 6, 6), 1);
        LateFalls first = new LateFalls();
        Check.due("ago 0 in hour 0", first.levels(0, 1, 0, 0), 1);
        Check.badArgument("ago 1 in hour 0", () -> first.levels(0, 1, 1, 1));
        Check.due("ago 60 in hour 60", Check.of("fall 1 1;hour 60;").levels(0, 1, 60, 60), 1);
        Check.badArgument("ago 60 in hour 59", () -> Check.of("fall 1 1;hour 59;").levels(0, 1, 60, 60));
    }
}
